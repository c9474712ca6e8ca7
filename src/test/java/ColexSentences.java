/** The sentences of the promises 14 to 19. */
final class ColexSentences {
  private static final int NONE = SetFamilies.NONE;
  /** How many sets of each size there are with ten elements. */
  private static final int[] LEVELS = {1, 10, 45, 120, 210, 252, 210, 120, 45, 10, 1};

  private ColexSentences() {}

  static void all() {
    segment();
    rank();
    unrank();
    cascade();
    shadowBound();
    excess();
  }

  private static int levelSize(int n, int k) {
    int count = 0;
    for (int s = 0; s < 1 << n; s++) {
      count += Integer.bitCount(s) == k ? 1 : 0;
    }
    return count;
  }

  private static void segment() {
    Document.section("Promise 14: segment");
    Document.says("Lays an initial segment at a place.", () -> {
      SetFamilies x = Bench.with(5, "0", "1", "2");
      x.segment(1, 2, 4);
      Check.same("four sets of size 2", "5:1|3 5 6 9|4|", Bench.families(x));
      x.segment(1, 2, 0);
      Check.same("no sets", "5:1||4|", Bench.families(x));
      x.segment(3, 5, 1);
      Check.same("all elements", "5:1||4|31", Bench.families(x));
      x.segment(3, 0, 1);
      Check.same("the empty set", "5:1||4|0", Bench.families(x));
    });
    Document.says("Undoable.", () -> {
      Bench.undoable(() -> Bench.with(6, "0", "1"), "segment(0, 2, 3)", true, x -> x.segment(0, 2, 3));
      Bench.undoable(() -> Bench.with(6, "0", "1"), "segment(0, 2, 0)", true, x -> x.segment(0, 2, 0));
      Bench.undoable(() -> Bench.with(6, "0", "1"), "segment(0, 1, 1), which is there", false, x -> x.segment(0, 1, 1));
      Bench.undoable(SetFamilies::new, "segment(3, 6, 0), which is there", false, x -> x.segment(3, 6, 0));
      Bench.undoable(() -> Bench.with(10, "9"), "segment(0, 9, 10)", true, x -> x.segment(0, 9, 10));
    });
    Document.says("- `place`: 0 to 3", () -> Bench.eachPlace(() -> Bench.with(2, "01", "1", "01", "-"),
        (x, place) -> x.segment(place, 1, 2), "2:1 2|2|3|0", "2:3|1 2|3|0", "2:3|2|1 2|0", "2:3|2|3|1 2"));
    Document.says("- `k`: 0 to n", () -> {
      for (int n = 1; n <= 10; n++) {
        Bench.ends(n, 0, n, (x, k) -> x.segment(0, k, 0));
        Bench.ends(n, 0, n, (x, k) -> x.segment(0, k, 1));
      }
    });
    Document.says("- `m`: 0 to the number of sets of size k", () -> {
      for (int n = 1; n <= 10; n++) {
        for (int k = 0; k <= n; k++) {
          int size = k;
          Bench.ends(n, 0, levelSize(n, k), (x, m) -> x.segment(0, size, m));
        }
      }
    });
    Document.says("Returns the code of its last set; NONE if m is 0.", () -> {
      for (int n = 1; n <= 10; n++) {
        for (int k = 0; k <= n; k++) {
          SetFamilies x = Bench.busy(n);
          Check.due("the whole level " + k + ", n = " + n, ((1 << k) - 1) << (n - k), x.segment(3, k, levelSize(n, k)));
          Check.due("its size", levelSize(n, k), x.size(3, k));
          Check.due("one set of size " + k + ", n = " + n, (1 << k) - 1, x.segment(3, k, 1));
          Check.due("no set of size " + k + ", n = " + n, NONE, x.segment(3, k, 0));
          Check.due("the size of no sets", 0, x.size(3, NONE));
        }
      }
    });
    Document.says("Throws `IndexOutOfBoundsException` if place is out of range", () -> {
      Bench.refusedFamilies((x, place) -> x.segment(place, 0, 0));
      Bench.refusedFamilies((x, place) -> x.segment(place, 1, 1));
    });
    Document.says("Throws `IllegalArgumentException` if k or m is out of range", () -> {
      for (int n : Bench.GROUNDS) {
        Bench.refusedBeyond(n, 0, n, (x, k) -> x.segment(2, k, 0));
        Bench.refusedBeyond(n, 0, n, (x, k) -> x.segment(2, k, 1));
        Bench.refusedBeyond(n, 0, 1, (x, m) -> x.segment(2, 0, m));
        Bench.refusedBeyond(n, 0, 1, (x, m) -> x.segment(2, n, m));
        Bench.refusedBeyond(n, 0, levelSize(n, n / 2), (x, m) -> x.segment(2, n / 2, m));
      }
    });
  }

  private static void rank() {
    Document.section("Promise 15: rank");
    Document.says("Returns the rank of a set.", () -> {
      SetFamilies x = new SetFamilies();
      int[] sets = {3, 5, 6, 9, 10, 12, 17, 18, 20, 24};
      for (int i = 0; i < sets.length; i++) {
        Check.due("rank(" + sets[i] + ")", i, x.rank(sets[i]));
      }
    });
    Document.says("- `set`: code of a set", () -> {
      for (int n : Bench.GROUNDS) {
        Bench.ends(n, 0, 1023, (x, s) -> x.rank(s));
      }
    });
    Document.says("Returns the rank.", () -> {
      SetFamilies x = Bench.with(1);
      for (int k = 0; k <= 10; k++) {
        Check.due("the first set of size " + k, 0, x.rank((1 << k) - 1));
        Check.due("the last set of size " + k, LEVELS[k] - 1, x.rank(((1 << k) - 1) << (10 - k)));
      }
    });
    Document.says("Throws `IllegalArgumentException` if set is not from 0 to 1023 (n does not matter)", () -> {
      for (int n : Bench.GROUNDS) {
        Bench.refusedBeyond(n, 0, 1023, (x, s) -> x.rank(s));
        Check.due("rank(512) with n = " + n, 9, Bench.with(n).rank(512));
        Check.due("rank of the first set that n has not", n < 10 ? n : 0, Bench.with(n).rank(n < 10 ? 1 << n : 1));
      }
    });
  }

  private static void unrank() {
    Document.section("Promise 16: unrank");
    Document.says("Returns the set of a size that has a rank.", () -> {
      SetFamilies x = Bench.with(1);
      int[] sets = {7, 11, 13, 14, 19, 21, 22, 25, 26, 28};
      for (int i = 0; i < sets.length; i++) {
        Check.due("unrank(3, " + i + ")", sets[i], x.unrank(3, i));
      }
    });
    Document.says("- `k`: 0 to 10", () -> {
      for (int n : Bench.GROUNDS) {
        Bench.ends(n, 0, 10, (x, k) -> x.unrank(k, 0));
      }
    });
    Document.says("- `rank`: 0 or more", () -> {
      for (int k = 0; k <= 10; k++) {
        int size = k;
        Bench.endsOpen(6, (x, rank) -> x.unrank(size, rank));
      }
    });
    Document.says("Returns the code; NONE if there is no such set, or it has an element greater than 9.", () -> {
      for (int n : new int[] {1, 10}) {
        SetFamilies x = Bench.with(n);
        for (int k = 0; k <= 10; k++) {
          Check.due("unrank(" + k + ", 0)", (1 << k) - 1, x.unrank(k, 0));
          Check.due("the last set of size " + k, ((1 << k) - 1) << (10 - k), x.unrank(k, LEVELS[k] - 1));
          Check.due("one more of size " + k, NONE, x.unrank(k, LEVELS[k]));
          Check.due("a million more of size " + k, NONE, x.unrank(k, LEVELS[k] + 1000000));
          Check.due("the greatest rank of size " + k, NONE, x.unrank(k, Bench.GREATEST));
        }
      }
    });
    Document.says("Throws `IllegalArgumentException` if k is out of range, or rank is negative", () -> {
      for (int n : Bench.GROUNDS) {
        Bench.refusedBeyond(n, 0, 10, (x, k) -> x.unrank(k, 0));
        Bench.refusedNegative(n, (x, rank) -> x.unrank(0, rank));
        Bench.refusedNegative(n, (x, rank) -> x.unrank(10, rank));
      }
      Bench.refusedNegative(6, (x, rank) -> x.unrank(11, rank));
    });
  }

  private static void cascadeIs(int m, int k, int... numbers) {
    SetFamilies x = new SetFamilies();
    for (int i = 0; i < numbers.length; i++) {
      Check.due("cascade(" + m + ", " + k + ", " + i + ")", numbers[i], x.cascade(m, k, i));
    }
    for (int i : new int[] {numbers.length, 10, 11, Bench.GREATEST}) {
      Check.due("cascade(" + m + ", " + k + ", " + i + "), too far", NONE, x.cascade(m, k, i));
    }
  }

  private static void cascade() {
    Document.section("Promise 17: cascade");
    Document.says("Returns a number of the cascade of m at k.", () -> {
      SetFamilies x = new SetFamilies();
      // 27 = (6 over 3) + (4 over 2) + (1 over 1)
      Check.due("cascade(27, 3, 0)", 6, x.cascade(27, 3, 0));
      Check.due("cascade(27, 3, 1)", 4, x.cascade(27, 3, 1));
      Check.due("cascade(27, 3, 2)", 1, x.cascade(27, 3, 2));
    });
    Document.says("- `m`: 1 to 1000000", () -> {
      for (int k = 1; k <= 10; k++) {
        int size = k;
        Bench.ends(6, 1, 1000000, (x, m) -> x.cascade(m, size, 0));
        cascadeIs(1, k, k);
      }
      cascadeIs(1000000, 1, 1000000);
      cascadeIs(1000000, 2, 1414, 1009);
      cascadeIs(1000000, 3, 182, 153, 112);
      cascadeIs(1000000, 10, 22, 21, 18, 16, 14, 12, 11, 9, 6, 2);
    });
    Document.says("- `k`: 1 to 10", () -> {
      for (int m : new int[] {1, 2, 11, 1000000}) {
        Bench.ends(1, 1, 10, (x, k) -> x.cascade(m, k, 0));
      }
      cascadeIs(7, 1, 7);
      cascadeIs(7, 10, 10, 9, 8, 7, 6, 5, 4);
    });
    Document.says("- `index`: 0 or more; 0 for a(k)", () -> {
      for (int k = 1; k <= 10; k++) {
        int size = k;
        Bench.endsOpen(10, (x, index) -> x.cascade(1000000, size, index));
      }
      Check.due("a(5) of 252 at 5", 10, new SetFamilies().cascade(252, 5, 0));
    });
    Document.says("Returns the number; NONE if the cascade is not so long.", () -> {
      cascadeIs(1, 10, 10);
      cascadeIs(9, 10, 10, 9, 8, 7, 6, 5, 4, 3, 2);
      cascadeIs(10, 10, 10, 9, 8, 7, 6, 5, 4, 3, 2, 1);
      cascadeIs(11, 10, 11);
      cascadeIs(251, 5, 9, 8, 7, 6, 5);
      cascadeIs(252, 5, 10);
      cascadeIs(253, 5, 10, 4);
    });
    Document.says("Throws `IllegalArgumentException` if m or k is out of range, or index is negative", () -> {
      for (int n : new int[] {1, 10}) {
        Bench.refusedBeyond(n, 1, 1000000, (x, m) -> x.cascade(m, 1, 0));
        Bench.refusedBeyond(n, 1, 1000000, (x, m) -> x.cascade(m, 10, 9));
        Bench.refusedBeyond(n, 1, 10, (x, k) -> x.cascade(1, k, 0));
        Bench.refusedBeyond(n, 1, 10, (x, k) -> x.cascade(1000000, k, 0));
        Bench.refusedNegative(n, (x, index) -> x.cascade(1, 1, index));
        Bench.refusedNegative(n, (x, index) -> x.cascade(1000000, 10, index));
      }
    });
  }

  private static void boundIs(int m, int k, int want) {
    Check.due("shadowBound(" + m + ", " + k + ")", want, new SetFamilies().shadowBound(m, k));
  }

  private static void shadowBound() {
    Document.section("Promise 18: shadowBound");
    Document.says("Returns the shadow bound of m at k.", () -> {
      // (6 over 2) + (4 over 1) + (1 over 0)
      boundIs(27, 3, 20);
      boundIs(20, 3, 15);
      boundIs(252, 5, 210);
      boundIs(251, 5, 210);
      boundIs(253, 5, 214);
    });
    Document.says("- `m`: 0 to 1000000", () -> {
      for (int k = 1; k <= 10; k++) {
        int size = k;
        Bench.ends(1, 0, 1000000, (x, m) -> x.shadowBound(m, size));
        boundIs(1, k, k);
      }
      boundIs(1000000, 1, 1);
      boundIs(1000000, 2, 1415);
      boundIs(1000000, 3, 16625);
      boundIs(1000000, 10, 743447);
    });
    Document.says("- `k`: 1 to 10", () -> {
      for (int m : new int[] {0, 1, 1000000}) {
        Bench.ends(10, 1, 10, (x, k) -> x.shadowBound(m, k));
      }
      boundIs(10, 1, 1);
      boundIs(10, 10, 55);
    });
    Document.says("Returns the bound; 0 if m is 0.", () -> {
      for (int k = 1; k <= 10; k++) {
        boundIs(0, k, 0);
      }
      boundIs(1, 1, 1);
    });
    Document.says("Throws `IllegalArgumentException` if an argument is out of range", () -> {
      for (int n : new int[] {1, 10}) {
        Bench.refusedBeyond(n, 0, 1000000, (x, m) -> x.shadowBound(m, 1));
        Bench.refusedBeyond(n, 0, 1000000, (x, m) -> x.shadowBound(m, 10));
        Bench.refusedBeyond(n, 1, 10, (x, k) -> x.shadowBound(0, k));
        Bench.refusedBeyond(n, 1, 10, (x, k) -> x.shadowBound(1000000, k));
      }
    });
  }

  private static void excess() {
    Document.section("Promise 19: excess");
    Document.says("Tells how many sets more the shadow of a level of a family has than the initial segment of as many sets of this"
        + " size has as its shadow.", () -> {
      SetFamilies x = Bench.with(10, "01,23,45,67,89,012,345,5,9");
      Check.due("five pairs without a common element", 6, x.excess(0, 2));
      Check.due("two triples", 1, x.excess(0, 3));
      Check.due("two single elements", 0, x.excess(0, 1));
      Check.same("nothing changes", "10:3 7 12 32 48 56 192 512 768|||", Bench.families(x));
    });
    Document.says("- `family`: 0 to 3", () -> Bench.eachFamily(() -> Bench.with(8, "", "01,23", "01,23,45", "01,23,45,67"),
        (x, f) -> x.excess(f, 2), 0, 1, 3, 4));
    Document.says("- `level`: 1 to n", () -> {
      for (int n : Bench.GROUNDS) {
        Bench.ends(n, 1, n, (x, level) -> x.excess(3, level));
      }
    });
    Document.says("Returns that number (0 or more).", () -> {
      for (int n : Bench.GROUNDS) {
        SetFamilies x = Bench.full(n);
        for (int level = 1; level <= n; level++) {
          for (int f = 0; f < 4; f++) {
            Check.due("excess(" + f + ", " + level + ") with n = " + n, 0, x.excess(f, level));
          }
        }
      }
      SetFamilies x = Bench.with(10);
      for (int m = 0; m <= 120; m++) {
        x.segment(0, 3, m);
        Check.due("an initial segment of " + m, 0, x.excess(0, 3));
      }
    });
    Document.says("Throws `IndexOutOfBoundsException` if there is no such family",
        () -> Bench.refusedFamilies((x, f) -> x.excess(f, 1)));
    Document.says("Throws `IllegalArgumentException` if level is out of range", () -> {
      for (int n : Bench.GROUNDS) {
        Bench.refusedBeyond(n, 1, n, (x, level) -> x.excess(0, level));
        Bench.refused(Bench.ARGUMENT, n, "NONE", x -> x.excess(0, NONE));
      }
    });
  }
}
