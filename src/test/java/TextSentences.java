/** The sentences of the promises 27 to 31. */
final class TextSentences {
  private static final int NONE = SetFamilies.NONE;

  private TextSentences() {}

  static void all() {
    type();
    clearText();
    read();
    undo();
    digest();
  }

  /** 120 bytes that describe two sets. */
  private static String longest() {
    return "0,".repeat(59) + "01";
  }

  private static void type() {
    Document.section("Promise 27: type");
    Document.says("Appends a byte to the text.", () -> {
      SetFamilies x = new SetFamilies();
      x.type('0');
      x.type('5');
      Check.due("read(0) of 05", 1, x.read(0));
      Check.same("type changes no family", "6:33|||", Bench.families(x));
      x.type('5');
      Check.due("read(0) of 055", -12, x.read(0));
      SetFamilies y = Bench.with(6, "0,".repeat(59) + "0");
      Check.due("119 bytes", 1, y.size(0, NONE));
      y.type('1');
      Check.due("the last byte of 120", 2, y.read(0));
    });
    Document.says("- `value`: 0 to 127", () -> {
      Bench.ends(1, 0, 127, (x, value) -> x.type(value));
      Bench.ends(10, 0, 127, (x, value) -> x.type(value));
      for (int value = 0; value <= 127; value++) {
        Check.due("type(" + value + ")", 1, new SetFamilies().type(value));
      }
    });
    Document.says("Returns the length of the text.", () -> {
      SetFamilies x = new SetFamilies();
      for (int length = 1; length <= 120; length++) {
        Check.due("byte " + length, length, x.type(length));
      }
      Check.turnedDown("byte 121", () -> x.type('0'));
      Check.due("the length stays", 120, x.clearText());
      Check.due("the first byte again", 1, x.type('0'));
    });
    Document.says("Throws `IllegalArgumentException` if value is out of range", () -> {
      Bench.refusedBeyond(1, 0, 127, (x, value) -> x.type(value));
      Bench.refusedBeyond(10, 0, 127, (x, value) -> x.type(value));
      for (int value : new int[] {-128, 128 + '0', 255, 256 + '0'}) {
        Bench.refused(Bench.ARGUMENT, 6, "type(" + value + ")", x -> x.type(value));
      }
    });
    Document.says("Throws `IllegalStateException` if the text has 120 bytes", () -> {
      for (int value : new int[] {0, '0', ',', '-', 127}) {
        Bench.refused(Bench.STATE, () -> Bench.with(6, longest()), "type(" + value + ") as byte 121", x -> x.type(value));
        Check.due("type(" + value + ") as byte 120", 120, Bench.with(6, "0,".repeat(59) + "0").type(value));
      }
      SetFamilies x = Bench.with(6, longest());
      Check.throwsA(Bench.STATE, "type of a full text", () -> x.type('1'));
      Check.throwsA(Bench.STATE, "type of a full text again", () -> x.type('1'));
      x.undo();
      Check.throwsA(Bench.STATE, "type after undo(), which leaves the text", () -> x.type('1'));
    });
  }

  private static void clearText() {
    Document.section("Promise 28: clearText");
    Document.says("Empties the text.", () -> {
      SetFamilies x = Bench.with(3, "012", "-,0");
      String before = Bench.families(x);
      x.clearText();
      Check.same("no family changes", before, Bench.families(x));
      Check.due("undo(), since it is not undoable", 2, x.undo());
      Check.due("undo() does not bring it back", 0, x.clearText());
      Check.due("read(0) of nothing", 0, x.read(0));
      SetFamilies y = Bench.with(6, longest());
      y.clearText();
      Check.due("a full text is free again", 1, y.type('-'));
      Check.due("and has nothing of before", 1, y.read(0));
      Check.due("the empty set", 0, y.get(0, 0));
      SetFamilies z = Bench.with(6, "0,x");
      z.clearText();
      Check.due("a fault is gone", 0, z.read(0));
    });
    Document.says("Returns the length that it had.", () -> {
      SetFamilies x = new SetFamilies();
      Check.due("an empty text", 0, x.clearText());
      x.type(0);
      Check.due("one byte", 1, x.clearText());
      Check.due("an empty text again", 0, x.clearText());
      Bench.type(x, longest());
      Check.due("a full text", 120, x.clearText());
      Check.due("an empty text after it", 0, x.clearText());
    });
  }

  private static void readIs(int n, String text, int want) {
    Check.due("read of '" + text + "' with n = " + n, want, Bench.read(Bench.with(n), 0, text));
  }

  private static void read() {
    Document.section("Promise 29: read");
    Document.says("Makes a family the one that the text describes.", () -> {
      SetFamilies x = Bench.with(3, "0", "1", "2", "0,1,2");
      Bench.read(x, 3, "012,-");
      Check.same("it is replaced", "3:1|2|4|0 7", Bench.families(x));
      x.read(0);
      Check.same("the text is still there", "3:0 7|2|4|0 7", Bench.families(x));
      Bench.read(x, 3, "");
      Check.same("by an empty text", "3:0 7|2|4|", Bench.families(x));
      Check.same("with n = 1", "1:0 1|||", Bench.families(Bench.with(1, "0,-")));
      Check.same("with n = 10", "10:512 1023|||", Bench.families(Bench.with(10, "0123456789,9")));
      Check.same("by a full text", "6:1 3|||", Bench.families(Bench.with(6, longest())));
    });
    Document.says("Undoable, if the text has no fault.", () -> {
      Bench.undoable(() -> Bench.with(6, "0", "1"), "read(0)", true, x -> x.read(0));
      Bench.undoable(() -> Bench.with(6, "0", "1"), "read(1), which is there", false, x -> x.read(1));
      Bench.undoable(SetFamilies::new, "read(0) of an empty text", false, x -> x.read(0));
      Bench.undoable(() -> Bench.with(6, longest()), "read(1) of a full text", true, x -> x.read(1));
      for (String text : new String[] {",", "0,", "x", "6", "00", "0".repeat(120), "0,".repeat(60)}) {
        SetFamilies x = Bench.with(6, text);
        Check.due("undo() after a text with a fault, '" + text + "'", 0, x.undo());
      }
    });
    Document.says("- `family`: 0 to 3", () -> {
      Bench.Maker maker = () -> {
        SetFamilies x = Bench.with(2, "0", "1", "01", "-");
        x.clearText();
        Bench.type(x, "0,1");
        return x;
      };
      Bench.eachPlace(maker, (x, f) -> x.read(f), "2:1 2|2|3|0", "2:1|1 2|3|0", "2:1|2|1 2|0", "2:1|2|3|1 2");
    });
    Document.says("Returns how many sets it has; -10 minus the fault if there is one (then nothing changes).", () -> {
      readIs(6, "", 0);
      readIs(6, "-", 1);
      readIs(6, "0,1,0", 2);
      readIs(6, longest(), 2);
      readIs(6, ",", -10);
      readIs(6, "0,", -12);
      readIs(6, "0,".repeat(59) + "00", -129);
      readIs(6, "0,".repeat(60), -130);
      for (String text : new String[] {",", "6", "0,", "0,".repeat(59) + "00", "0,".repeat(60), "1,2,x"}) {
        Bench.Maker maker = () -> {
          SetFamilies x = Bench.busy(6);
          x.clearText();
          Bench.type(x, text);
          return x;
        };
        for (int f = 0; f < 4; f++) {
          SetFamilies x = maker.make();
          Check.yes("read(" + f + ") of '" + text + "' tells a fault", x.read(f) <= -10);
          Check.same("the state after it", Bench.whole(maker.make()), Bench.whole(x));
        }
      }
    });
    Document.says("Throws `IndexOutOfBoundsException` if there is no such family", () -> {
      Bench.refusedFamilies((x, f) -> x.read(f));
      for (String text : new String[] {"", "0,", "x", longest()}) {
        Bench.refused(Bench.INDEX, () -> Bench.with(6, text), "read(4) of '" + text + "'", x -> x.read(4));
        Bench.refused(Bench.INDEX, () -> Bench.with(6, text), "read(-1) of '" + text + "'", x -> x.read(-1));
      }
    });
  }

  private static void undo() {
    Document.section("Promise 30: undo");
    Document.says("Restores the latest saved state and removes it from the undo stack.", () -> {
      SetFamilies x = new SetFamilies();
      x.add(0, 1);
      x.setGround(10);
      x.add(3, 1023);
      x.type('0');
      x.undo();
      Check.same("before add(3, 1023)", "10:|||", Bench.families(x));
      x.undo();
      Check.same("before setGround(10)", "6:1|||", Bench.families(x));
      x.undo();
      Check.same("before add(0, 1)", "6:|||", Bench.families(x));
      Check.due("the text is not of the state", 1, x.clearText());
      SetFamilies y = Bench.with(1, "0");
      y.undo();
      y.add(0, 0);
      y.undo();
      Check.same("it was removed", "1:|||", Bench.families(y));
      y.undo();
      Check.same("the one before it", "6:|||", Bench.families(y));
    });
    Document.says("Returns the number of states that are left on the stack.", () -> {
      for (int calls = 1; calls <= 9; calls++) {
        SetFamilies x = new SetFamilies();
        for (int i = 0; i < calls; i++) {
          x.add(0, i);
        }
        for (int left = Math.min(calls, 4) - 1; left >= 0; left--) {
          Check.due("undo() after " + calls + " calls", left, x.undo());
        }
      }
    });
    Document.says("Throws `IllegalStateException` if the stack is empty", () -> {
      Bench.refused(Bench.STATE, SetFamilies::new, "undo() at first", SetFamilies::undo);
      for (int calls = 1; calls <= 6; calls++) {
        int made = calls;
        Bench.Maker undone = () -> {
          SetFamilies x = new SetFamilies();
          for (int i = 0; i < made; i++) {
            x.add(0, i);
          }
          for (int i = 0; i < Math.min(made, 4); i++) {
            x.undo();
          }
          return x;
        };
        Bench.refused(Bench.STATE, undone, "undo() when all of " + calls + " are undone", SetFamilies::undo);
        SetFamilies x = undone.make();
        Check.throwsA(Bench.STATE, "undo() of nothing", x::undo);
        x.add(1, 0);
        Check.due("undo() after one more call", 0, x.undo());
      }
    });
  }

  private static void digest() {
    Document.section("Promise 31: digest");
    Document.says("Returns a hash of the state.", () -> {
      String before = Bench.whole(Bench.busy(6));
      SetFamilies x = Bench.busy(6);
      long first = x.digest();
      Check.due("digest() again", first, x.digest());
      Check.same("digest() changes nothing", before, Bench.whole(x));
      Check.due("digest() of an object in the same state", first, Bench.busy(6).digest());
    });
    Document.says("It starts with h = 18454.", () -> {
      // The least of states, n = 1 and no sets: all that follows is written out.
      SetFamilies x = Bench.with(1);
      long h = Bench.mixed(18454, 1, 0, 1);
      for (int f = 0; f < 4; f++) {
        h = Bench.mixed(h, 0, 0, 1, 1, 1, 1, 1, 1, 0, 1, -1, -1, -1, 0, 0, 0);
      }
      for (int pair = 0; pair < 16; pair++) {
        h = Bench.mixed(h, -1);
      }
      Check.due("digest() with n = 1", h, x.digest());
    });
    Document.says("For each of the following values v, in this order, h becomes 31 * h + v (long arithmetic, overflow wraps).", () -> {
      Check.due("digest() of a new object, which has wrapped round", -2239776759518685520L, new SetFamilies().digest());
      for (int n : Bench.GROUNDS) {
        SetFamilies x = Bench.busy(n);
        Check.due("digest() with n = " + n, Bench.hash(x, 4, 3, n), x.digest());
      }
    });
    Document.says("the number of states on the undo stack, the length of the text, n;", () -> {
      for (int states = 0; states <= 6; states++) {
        SetFamilies x = new SetFamilies();
        for (int i = 0; i < states; i++) {
          x.remove(0, 0);
        }
        Check.due("digest() with " + states + " states", Bench.hash(x, Math.min(states, 4), 0, 6), x.digest());
      }
      for (int length : new int[] {0, 1, 119, 120}) {
        SetFamilies x = new SetFamilies();
        Bench.type(x, "x".repeat(length));
        Check.due("digest() with a text of " + length, Bench.hash(x, 0, length, 6), x.digest());
      }
      for (int n = 1; n <= 10; n++) {
        SetFamilies x = Bench.with(n);
        Check.due("digest() with n = " + n, Bench.hash(x, 1, 0, n), x.digest());
      }
    });
    Document.says("for each family its size, the codes of all its sets in ascending order, its degrees, is() of 0 to 5 as 1 or 0, the"
        + " numerator and the denominator of its weight, dimension(), shattered(), sunflower(), pairs() of 0 to n, excess() of 1"
        + " to n; crossing(f, g) for all f and, for each f, all g.", () -> {
      SetFamilies two = Bench.with(2, "-,0,1,01", "-", "01");
      // By hand, with n = 2: all sets, the empty set alone, the set of all elements alone, no sets.
      long h = Bench.mixed(18454, 4, 2, 2);
      h = Bench.mixed(h, 4, 0, 1, 2, 3, 2, 2, 0, 0, 1, 1, 1, 1, 3, 1, 2, 3, 0, 4, 2, 0, 0, 0);
      h = Bench.mixed(h, 1, 0, 0, 0, 1, 0, 1, 1, 1, 1, 1, 1, 0, 0, -1, 0, 0, 0, 0, 0);
      h = Bench.mixed(h, 1, 3, 1, 1, 1, 1, 1, 1, 0, 1, 1, 1, 0, 0, -1, 0, 0, 0, 0, 0);
      h = Bench.mixed(h, 0, 0, 0, 1, 1, 1, 1, 1, 1, 0, 1, -1, -1, -1, 0, 0, 0, 0, 0);
      h = Bench.mixed(h, 0, 0, 3, -1, 0, 0, 3, -1, 3072, 3072, -1, -1, -1, -1, -1, -1);
      Check.due("digest() with n = 2", h, two.digest());
      for (int n = 1; n <= 8; n++) {
        SetFamilies x = Bench.full(n);
        Check.due("digest() of full families with n = " + n, Bench.hash(x, 4, 0, n), x.digest());
      }
      SetFamilies x = Bench.with(10, "0123,0145,2345,67,89,-", "9,8,7", "0123456789", "012,345,678");
      Check.due("digest() with n = 10", Bench.hash(x, 4, 11, 10), x.digest());
    });
    Document.says("Returns the hash.", () -> {
      SetFamilies x = new SetFamilies();
      NaiveFamilies model = new NaiveFamilies();
      for (int n = 1; n <= 10; n++) {
        x.setGround(n);
        model.setGround(n);
        x.add(0, Bench.everything(n));
        model.add(0, Bench.everything(n));
        x.derive(1, SetFamilies.SHADOW, 0);
        model.derive(1, SetFamilies.SHADOW, 0);
        Check.due("digest() with n = " + n, model.digest(), x.digest());
      }
    });
  }
}
