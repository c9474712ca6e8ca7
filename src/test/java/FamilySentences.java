/** The sentences of the promises 1 to 8. */
final class FamilySentences {
  private static final int NONE = SetFamilies.NONE;

  private FamilySentences() {}

  static void all() {
    newObject();
    setGround();
    add();
    remove();
    has();
    size();
    get();
    degree();
  }

  private static void newObject() {
    Document.section("Promise 1: A new object");
    Document.says("Creates a workbench as described, with an empty text and an empty undo stack.", () -> {
      SetFamilies x = new SetFamilies();
      Check.same("n and the families", "6:|||", Bench.families(x));
      // Worked out by hand from promise 31.
      Check.due("digest()", -2239776759518685520L, x.digest());
      Check.due("read(0) of the empty text", 0, x.read(0));
      Check.due("the length of the text", 0, new SetFamilies().clearText());
      Bench.refused(Bench.STATE, SetFamilies::new, "undo()", SetFamilies::undo);
      x.add(0, 5);
      x.type('0');
      Check.due("digest() of another object", -2239776759518685520L, new SetFamilies().digest());
    });
  }

  private static void setGround() {
    Document.section("Promise 2: setGround");
    Document.says("Sets n, and empties all families.", () -> {
      for (int before = 1; before <= 10; before++) {
        for (int n = 1; n <= 10; n++) {
          SetFamilies x = Bench.busy(before);
          x.setGround(n);
          Check.same("from " + before + " to " + n, n + ":|||", Bench.families(x));
        }
      }
      SetFamilies x = Bench.full(10);
      x.setGround(1);
      x.setGround(10);
      Check.due("all 1024 sets are gone", 0, x.size(0, NONE));
    });
    Document.says("Undoable.", () -> {
      for (int n : Bench.GROUNDS) {
        Bench.undoable(() -> Bench.with(n, "0", "-,0"), "setGround(10) from " + n, true, x -> x.setGround(10));
        Bench.undoable(() -> Bench.with(n, "0", "-,0"), "setGround(1) from " + n, true, x -> x.setGround(1));
        Bench.undoable(() -> Bench.with(n), "setGround of the same n", false, x -> x.setGround(n));
      }
      SetFamilies x = Bench.full(10);
      x.setGround(1);
      x.undo();
      Check.due("all 1024 sets are back", 1024, x.size(0, NONE));
      Check.yes("the last one too", x.has(0, 1023));
    });
    Document.says("- `elements`: 1 to 10", () -> Bench.ends(6, 1, 10, (x, n) -> x.setGround(n)));
    Document.says("Returns the previous n.", () -> {
      SetFamilies x = new SetFamilies();
      Check.due("setGround(1)", 6, x.setGround(1));
      Check.due("setGround(10)", 1, x.setGround(10));
      Check.due("setGround(10) again", 10, x.setGround(10));
      Check.due("setGround(5)", 10, x.setGround(5));
      Check.turnedDown("setGround(11)", () -> x.setGround(11));
      Check.due("setGround(6) after a refused call", 5, x.setGround(6));
      x.undo();
      Check.due("setGround(6) after undo()", 5, x.setGround(6));
    });
    Document.says("Throws `IllegalArgumentException` if elements is out of range", () -> {
      for (int n : Bench.GROUNDS) {
        Bench.refusedBeyond(n, 1, 10, (x, elements) -> x.setGround(elements));
      }
      Bench.refused(Bench.ARGUMENT, 6, "setGround(-6)", x -> x.setGround(-6));
      Bench.refused(Bench.ARGUMENT, SetFamilies::new, "setGround(0) at first", x -> x.setGround(0));
    });
  }

  private static void add() {
    Document.section("Promise 3: add");
    Document.says("Adds a set to a family.", () -> {
      SetFamilies x = Bench.with(3, "0", "1", "2");
      x.add(1, 7);
      x.add(1, 0);
      Check.same("add(1, 7), add(1, 0)", "3:1|0 2 7|4|", Bench.families(x));
      x.add(1, 7);
      Check.same("add(1, 7) again", "3:1|0 2 7|4|", Bench.families(x));
      for (int n : Bench.GROUNDS) {
        SetFamilies y = Bench.full(n);
        y.remove(0, Bench.everything(n));
        y.add(0, Bench.everything(n));
        y.add(0, 0);
        Check.due("the sets of a full family with n = " + n, 1 << n, y.size(0, NONE));
      }
    });
    Document.says("Undoable.", () -> {
      Bench.undoable(() -> Bench.with(6, "0"), "add(0, 63)", true, x -> Bench.bit(x.add(0, 63)));
      Bench.undoable(() -> Bench.with(6, "0"), "add(0, 1), which is there", false, x -> Bench.bit(x.add(0, 1)));
      Bench.undoable(SetFamilies::new, "add(3, 0)", true, x -> Bench.bit(x.add(3, 0)));
      Bench.undoable(() -> Bench.with(10, "9"), "add(0, 1023)", true, x -> Bench.bit(x.add(0, 1023)));
    });
    Document.says("- `family`: 0 to 3", () -> Bench.eachPlace(() -> Bench.with(2, "0", "0", "0", "0"),
        (x, f) -> Bench.bit(x.add(f, 2)), "2:1 2|1|1|1", "2:1|1 2|1|1", "2:1|1|1 2|1", "2:1|1|1|1 2"));
    Document.says("- `set`: code of a set", () -> Bench.endsOfSets((x, s) -> Bench.bit(x.add(2, s))));
    Document.says("Returns true if it was not in it.", () -> {
      SetFamilies x = Bench.with(10, "0");
      for (int s : new int[] {0, 63, 64, 1023}) {
        Check.yes("add(0, " + s + ")", x.add(0, s));
        Check.no("add(0, " + s + ") again", x.add(0, s));
        Check.yes("add(1, " + s + "), which is in another family", x.add(1, s));
      }
      x.remove(0, 1023);
      Check.yes("add(0, 1023) after remove", x.add(0, 1023));
      Check.no("add to a full family", Bench.full(1).add(0, 0));
      Check.no("add to a full family with n = 10", Bench.full(10).add(0, 1023));
    });
    Document.says("Throws `IndexOutOfBoundsException` if there is no such family",
        () -> Bench.refusedFamilies((x, f) -> Bench.bit(x.add(f, 0))));
    Document.says("Throws `IllegalArgumentException` if set is not the code of a set",
        () -> Bench.refusedSets((x, s) -> Bench.bit(x.add(3, s))));
  }

  private static void remove() {
    Document.section("Promise 4: remove");
    Document.says("Removes a set from a family.", () -> {
      SetFamilies x = Bench.with(3, "0,012,-", "0,012,-", "012");
      x.remove(1, 7);
      x.remove(1, 0);
      Check.same("remove(1, 7), remove(1, 0)", "3:0 1 7|1|7|", Bench.families(x));
      x.remove(1, 7);
      Check.same("remove(1, 7) again", "3:0 1 7|1|7|", Bench.families(x));
      x.remove(1, 1);
      x.remove(3, 1);
      Check.same("the last one, and one of an empty family", "3:0 1 7||7|", Bench.families(x));
      for (int n : Bench.GROUNDS) {
        SetFamilies y = Bench.full(n);
        y.remove(0, Bench.everything(n));
        Check.due("the sets that are left with n = " + n, (1 << n) - 1, y.size(0, NONE));
        Check.no("the last one is left", y.has(0, Bench.everything(n)));
      }
    });
    Document.says("Undoable.", () -> {
      Bench.undoable(() -> Bench.with(6, "0"), "remove(0, 1)", true, x -> Bench.bit(x.remove(0, 1)));
      Bench.undoable(() -> Bench.with(6, "0"), "remove(0, 2), which is not there", false, x -> Bench.bit(x.remove(0, 2)));
      Bench.undoable(SetFamilies::new, "remove(3, 0) of an empty family", false, x -> Bench.bit(x.remove(3, 0)));
      Bench.undoable(() -> Bench.with(10, "0123456789"), "remove(0, 1023)", true, x -> Bench.bit(x.remove(0, 1023)));
    });
    Document.says("- `family`: 0 to 3", () -> Bench.eachPlace(() -> Bench.with(2, "0", "0", "0", "0"),
        (x, f) -> Bench.bit(x.remove(f, 1)), "2:|1|1|1", "2:1||1|1", "2:1|1||1", "2:1|1|1|"));
    Document.says("- `set`: code of a set", () -> Bench.endsOfSets((x, s) -> Bench.bit(x.remove(2, s))));
    Document.says("Returns true if it was in it.", () -> {
      SetFamilies x = Bench.with(10, "-,012345,6,0123456789", "0");
      for (int s : new int[] {0, 63, 64, 1023}) {
        Check.no("remove(1, " + s + "), which is in another family", x.remove(1, s));
        Check.yes("remove(0, " + s + ")", x.remove(0, s));
        Check.no("remove(0, " + s + ") again", x.remove(0, s));
      }
      Check.no("remove of an empty family", x.remove(3, 0));
      Check.yes("remove of a full family", Bench.full(1).remove(0, 1));
    });
    Document.says("Throws `IndexOutOfBoundsException` if there is no such family",
        () -> Bench.refusedFamilies((x, f) -> Bench.bit(x.remove(f, 0))));
    Document.says("Throws `IllegalArgumentException` if set is not the code of a set",
        () -> Bench.refusedSets((x, s) -> Bench.bit(x.remove(3, s))));
  }

  private static void has() {
    Document.section("Promise 5: has");
    Document.says("Tells whether a set is in a family.", () -> {
      SetFamilies x = Bench.with(4, "02,3,0123");
      for (int s = 0; s < 16; s++) {
        Check.due("has(0, " + s + ")", Bench.bit(s == 5 || s == 8 || s == 15), Bench.bit(x.has(0, s)));
      }
      Check.same("nothing changes", "4:5 8 15|||", Bench.families(x));
    });
    Document.says("- `family`: 0 to 3", () -> {
      Bench.eachFamily(() -> Bench.with(3, "01", "12", "01", "-"), (x, f) -> Bench.bit(x.has(f, 3)), 1, 0, 1, 0);
      Bench.eachFamily(() -> Bench.with(3, "12", "01", "12", "01"), (x, f) -> Bench.bit(x.has(f, 3)), 0, 1, 0, 1);
    });
    Document.says("- `set`: code of a set", () -> Bench.endsOfSets((x, s) -> Bench.bit(x.has(2, s))));
    Document.says("Returns true if it is.", () -> {
      for (int n : Bench.GROUNDS) {
        SetFamilies x = Bench.full(n);
        Check.yes("the first set of all", x.has(0, 0));
        Check.yes("the last set of all", x.has(0, Bench.everything(n)));
        Check.yes("the empty set alone", x.has(1, 0));
        Check.no("another one", x.has(1, Bench.everything(n)));
        Check.yes("the set of all elements alone", x.has(2, Bench.everything(n)));
        Check.no("the empty set", x.has(2, 0));
        Check.no("of an empty family", x.has(3, 0));
      }
    });
    Document.says("Throws `IndexOutOfBoundsException` if there is no such family",
        () -> Bench.refusedFamilies((x, f) -> Bench.bit(x.has(f, 0))));
    Document.says("Throws `IllegalArgumentException` if set is not the code of a set",
        () -> Bench.refusedSets((x, s) -> Bench.bit(x.has(3, s))));
  }

  private static void size() {
    Document.section("Promise 6: size");
    Document.says("Returns a count of a family.", () -> {
      SetFamilies x = Bench.with(5, "-,4,01,02,01234");
      Check.due("size(0, NONE)", 5, x.size(0, NONE));
      Check.due("size(0, 2)", 2, x.size(0, 2));
      Check.same("nothing changes", "5:0 3 5 16 31|||", Bench.families(x));
    });
    Document.says("- `family`: 0 to 3", () -> Bench.eachFamily(() -> Bench.with(4, "", "0,1", "-", "0,1,2,3"),
        (x, f) -> x.size(f, NONE), 0, 2, 1, 4));
    Document.says("- `level`: 0 to n, or NONE for the whole family", () -> {
      for (int n : Bench.GROUNDS) {
        Bench.ends(n, NONE, n, (x, level) -> x.size(3, level));
        Check.due("level 0 with n = " + n, 1, Bench.full(n).size(0, 0));
        Check.due("level n with n = " + n, 1, Bench.full(n).size(0, n));
        Check.due("NONE with n = " + n, 1 << n, Bench.full(n).size(0, NONE));
      }
    });
    Document.says("Returns how many sets are in the level, or in the family.", () -> {
      int[][] binomials = {{1, 1}, {1, 2, 1}, {1, 5, 10, 10, 5, 1}, {1, 6, 15, 20, 15, 6, 1}, {1, 7, 21, 35, 35, 21, 7, 1},
          {1, 9, 36, 84, 126, 126, 84, 36, 9, 1}, {1, 10, 45, 120, 210, 252, 210, 120, 45, 10, 1}};
      for (int[] levels : binomials) {
        int n = levels.length - 1;
        SetFamilies x = Bench.full(n);
        for (int k = 0; k <= n; k++) {
          Check.due("level " + k + " of all sets with n = " + n, levels[k], x.size(0, k));
          Check.due("level " + k + " of the empty set", Bench.bit(k == 0), x.size(1, k));
          Check.due("level " + k + " of the set of all elements", Bench.bit(k == n), x.size(2, k));
          Check.due("level " + k + " of no sets", 0, x.size(3, k));
        }
        Check.due("no sets", 0, x.size(3, NONE));
      }
    });
    Document.says("Throws `IndexOutOfBoundsException` if there is no such family",
        () -> Bench.refusedFamilies((x, f) -> x.size(f, NONE)));
    Document.says("Throws `IllegalArgumentException` if level is out of range", () -> {
      for (int n : Bench.GROUNDS) {
        Bench.refusedBeyond(n, NONE, n, (x, level) -> x.size(0, level));
      }
    });
  }

  private static void get() {
    Document.section("Promise 7: get");
    Document.says("Returns a set of a family.", () -> {
      SetFamilies x = Bench.with(5, "3,01,-");
      Check.due("get(0, 1)", 3, x.get(0, 1));
      Check.same("nothing changes", "5:0 3 8|||", Bench.families(x));
    });
    Document.says("- `family`: 0 to 3", () -> Bench.eachFamily(() -> Bench.with(4, "", "0", "1", "-"),
        (x, f) -> x.get(f, 0), NONE, 1, 2, 0));
    Document.says("- `index`: 0 or more; by ascending codes", () -> {
      for (int n : Bench.GROUNDS) {
        Bench.endsOpen(n, (x, index) -> x.get(0, index));
      }
      SetFamilies x = Bench.with(10, "9,0123456789,-,6,012345,06,5");
      int[] sets = {0, 32, 63, 64, 65, 512, 1023};
      for (int i = 0; i < sets.length; i++) {
        Check.due("get(0, " + i + ")", sets[i], x.get(0, i));
      }
    });
    Document.says("Returns the code; NONE if the family has not so many.", () -> {
      for (int n : Bench.GROUNDS) {
        SetFamilies x = Bench.full(n);
        Check.due("the first of all sets", 0, x.get(0, 0));
        Check.due("the last of all sets with n = " + n, Bench.everything(n), x.get(0, Bench.everything(n)));
        Check.due("one more with n = " + n, NONE, x.get(0, 1 << n));
        Check.due("far more", NONE, x.get(0, Bench.GREATEST));
        Check.due("the only one", Bench.everything(n), x.get(2, 0));
        Check.due("one more than the only one", NONE, x.get(2, 1));
        Check.due("of no sets", NONE, x.get(3, 0));
        Check.due("of no sets, far more", NONE, x.get(3, Bench.GREATEST));
      }
    });
    Document.says("Throws `IndexOutOfBoundsException` if there is no such family",
        () -> Bench.refusedFamilies((x, f) -> x.get(f, 0)));
    Document.says("Throws `IllegalArgumentException` if index is negative", () -> {
      Bench.refusedNegative(1, (x, index) -> x.get(0, index));
      Bench.refusedNegative(10, (x, index) -> x.get(3, index));
    });
  }

  private static void degree() {
    Document.section("Promise 8: degree");
    Document.says("Returns how many sets of a family contain an element.", () -> {
      SetFamilies x = Bench.with(8, "-,0,07,67,01");
      int[] degrees = {3, 1, 0, 0, 0, 0, 1, 2};
      for (int e = 0; e < 8; e++) {
        Check.due("degree(0, " + e + ")", degrees[e], x.degree(0, e));
      }
      Check.same("nothing changes", "8:0 1 3 129 192|||", Bench.families(x));
    });
    Document.says("- `family`: 0 to 3", () -> Bench.eachFamily(() -> Bench.with(4, "0,01,02", "", "0,1", "0,03"),
        (x, f) -> x.degree(f, 0), 3, 0, 1, 2));
    Document.says("- `element`: 0 to n - 1", () -> {
      for (int n : Bench.GROUNDS) {
        Bench.ends(n, 0, n - 1, (x, element) -> x.degree(3, element));
      }
    });
    Document.says("Returns how many.", () -> {
      for (int n : Bench.GROUNDS) {
        SetFamilies x = Bench.full(n);
        for (int e = 0; e < n; e++) {
          Check.due("all sets with " + e + ", n = " + n, 1 << (n - 1), x.degree(0, e));
          Check.due("the empty set with " + e, 0, x.degree(1, e));
          Check.due("the set of all elements with " + e, 1, x.degree(2, e));
          Check.due("no sets with " + e, 0, x.degree(3, e));
        }
      }
    });
    Document.says("Throws `IndexOutOfBoundsException` if there is no such family",
        () -> Bench.refusedFamilies((x, f) -> x.degree(f, 0)));
    Document.says("Throws `IllegalArgumentException` if element is out of range", () -> {
      for (int n : Bench.GROUNDS) {
        Bench.refusedBeyond(n, 0, n - 1, (x, element) -> x.degree(1, element));
      }
    });
  }
}
