/** The sentences of the promises 20 to 26. */
final class PropertySentences {
  private static final int NONE = SetFamilies.NONE;

  private PropertySentences() {}

  static void all() {
    properties();
    weight();
    dimension();
    shattered();
    crossing();
    sunflower();
    pairs();
  }

  private static void properties() {
    Document.section("Promise 20: is");
    Document.says("Tells whether a family has a property.", () -> {
      SetFamilies x = Bench.with(3, "01,12,02");
      Check.yes("an antichain", x.is(0, 0));
      Check.no("closed under union", x.is(0, 2));
      Check.same("nothing changes", "3:3 5 6|||", Bench.families(x));
    });
    Document.says("- `family`: 0 to 3", () -> {
      Bench.eachFamily(() -> Bench.with(4, "0,01", "01,02", "0,01", "01,02"), (x, f) -> Bench.bit(x.is(f, 0)), 0, 1, 0, 1);
      Bench.eachFamily(() -> Bench.with(4, "01,02", "01,02", "0,01", "0,01"), (x, f) -> Bench.bit(x.is(f, 0)), 1, 1, 0, 0);
    });
    Document.says("- `property`: 0 antichain; 1 any two of its sets have an element in common, and it has not the empty set;"
        + " 2 closed under union (with any two sets also their union is in it); 3 closed under intersection; 4 it contains all"
        + " subsets of its sets; 5 no compression from j to i with i less than j changes it", () -> {
      for (int n : Bench.GROUNDS) {
        Bench.ends(n, 0, 5, (x, property) -> Bench.bit(x.is(3, property)));
      }
      has(6, "01,12,02,345", "100000");
      has(6, "0,01", "011101");
      has(6, "01,12,02,012", "011001");
      has(6, "0,5,05", "001000");
      has(6, "-,4,5", "000110");
      has(6, "-,0,1,01", "001111");
      has(6, "-,0,1,01,2", "000111");
      has(6, "-,0,1,01,5", "000110");
      has(6, "0,1,2,01,02,12", "000001");
      has(6, "1", "111100");
    });
    Document.says("Returns true if it has it.", () -> {
      for (int n = 1; n <= 10; n++) {
        SetFamilies x = Bench.full(n);
        Check.same("all sets, n = " + n, "001111", properties(x, 0));
        Check.same("the empty set, n = " + n, "101111", properties(x, 1));
        Check.same("the set of all elements, n = " + n, "111101", properties(x, 2));
        Check.same("no sets, n = " + n, "111111", properties(x, 3));
        Check.same("the last element alone, n = " + n, n == 1 ? "111101" : "111100", properties(Bench.with(n, "" + (n - 1)), 0));
      }
    });
    Document.says("Throws `IndexOutOfBoundsException` if there is no such family",
        () -> Bench.refusedFamilies((x, f) -> Bench.bit(x.is(f, 5))));
    Document.says("Throws `IllegalArgumentException` if property is out of range", () -> {
      Bench.refusedBeyond(1, 0, 5, (x, property) -> Bench.bit(x.is(0, property)));
      Bench.refusedBeyond(10, 0, 5, (x, property) -> Bench.bit(x.is(3, property)));
    });
  }

  private static String properties(SetFamilies x, int family) {
    StringBuilder line = new StringBuilder();
    for (int property = 0; property <= 5; property++) {
      line.append(Bench.bit(x.is(family, property)));
    }
    return line.toString();
  }

  private static void has(int n, String text, String want) {
    Check.same("the properties of '" + text + "' with n = " + n, want, properties(Bench.with(n, text), 0));
  }

  private static void weightIs(int n, String text, long numerator, long denominator) {
    SetFamilies x = Bench.with(n, text);
    Check.due("the numerator of '" + text + "' with n = " + n, numerator, x.weight(0, false));
    Check.due("the denominator of '" + text + "' with n = " + n, denominator, x.weight(0, true));
  }

  private static void weight() {
    Document.section("Promise 21: weight");
    Document.says("Returns the weight of a family.", () -> {
      weightIs(6, "0,01,012", 17, 60);
      weightIs(10, "0,01,012,0123,01234", 39, 280);
    });
    Document.says("- `family`: 0 to 3", () -> Bench.eachFamily(() -> Bench.with(6, "", "0", "01", "012"),
        (x, f) -> x.weight(f, true), 1, 6, 15, 20));
    Document.says("- `denominator`: true for the denominator, false for the numerator", () -> {
      SetFamilies x = Bench.with(6, "0,1,2,3,4", "-,0");
      Check.due("five sixths, true", 6, x.weight(0, true));
      Check.due("five sixths, false", 5, x.weight(0, false));
      Check.due("seven sixths, true", 6, x.weight(1, true));
      Check.due("seven sixths, false", 7, x.weight(1, false));
    });
    Document.says("Returns that number.", () -> {
      for (int n = 1; n <= 10; n++) {
        SetFamilies x = Bench.full(n);
        long[][] wants = {{n + 1, 1}, {1, 1}, {1, 1}, {0, 1}};
        for (int f = 0; f < 4; f++) {
          Check.due("weight(" + f + ", false) with n = " + n, wants[f][0], x.weight(f, false));
          Check.due("weight(" + f + ", true) with n = " + n, wants[f][1], x.weight(f, true));
        }
        weightIs(n, "0", 1, n);
      }
      weightIs(10, "01234", 1, 252);
      weightIs(9, "0123", 1, 126);
    });
    Document.says("Throws `IndexOutOfBoundsException` if there is no such family", () -> {
      Bench.refusedFamilies((x, f) -> x.weight(f, true));
      Bench.refusedFamilies((x, f) -> x.weight(f, false));
    });
  }

  private static void dimension() {
    Document.section("Promise 22: dimension");
    Document.says("Returns the dimension of a family.", () -> {
      SetFamilies x = Bench.with(10, "-,8,9,89", "01,12,02", "-,3,4,34,5,35,45,345");
      Check.due("two elements", 2, x.dimension(0));
      Check.due("one element", 1, x.dimension(1));
      Check.due("three elements", 3, x.dimension(2));
    });
    Document.says("- `family`: 0 to 3", () -> Bench.eachFamily(() -> Bench.with(6, "-,0,1,01", "", "0,1", "0"),
        (x, f) -> x.dimension(f), 2, NONE, 1, 0));
    Document.says("Returns the dimension; NONE for the empty family.", () -> {
      for (int n = 1; n <= 10; n++) {
        SetFamilies x = Bench.full(n);
        Check.due("all sets, n = " + n, n, x.dimension(0));
        Check.due("the empty set, n = " + n, 0, x.dimension(1));
        Check.due("the set of all elements, n = " + n, 0, x.dimension(2));
        Check.due("no sets, n = " + n, NONE, x.dimension(3));
        x.remove(0, Bench.everything(n));
        Check.due("all sets but one, n = " + n, n - 1, x.dimension(0));
      }
    });
    Document.says("Throws `IndexOutOfBoundsException` if there is no such family", () -> Bench.refusedFamilies((x, f) -> x.dimension(f)));
  }

  private static void shattered() {
    Document.section("Promise 23: shattered");
    Document.says("Returns the first set (by ascending codes) of the size of the dimension that a family shatters.", () -> {
      SetFamilies x = Bench.with(10, "-,8,9,89", "01,12,02", "-,3,4,34,1,5,15", "01,0");
      Check.due("8 and 9", 768, x.shattered(0));
      Check.due("0, the first of three", 1, x.shattered(1));
      // Both 15 and 34 are shattered; 34 has the lesser code.
      Check.due("3 and 4", 24, x.shattered(2));
      Check.due("1", 2, x.shattered(3));
    });
    Document.says("- `family`: 0 to 3", () -> Bench.eachFamily(() -> Bench.with(6, "-,0,1,01", "", "1,2", "0"),
        (x, f) -> x.shattered(f), 3, NONE, 2, 0));
    Document.says("Returns the code; NONE for the empty family.", () -> {
      for (int n = 1; n <= 10; n++) {
        SetFamilies x = Bench.full(n);
        Check.due("all sets, n = " + n, Bench.everything(n), x.shattered(0));
        Check.due("the empty set, n = " + n, 0, x.shattered(1));
        Check.due("the set of all elements, n = " + n, 0, x.shattered(2));
        Check.due("no sets, n = " + n, NONE, x.shattered(3));
        x.remove(0, 0);
        Check.due("all sets but one, n = " + n, Bench.everything(n - 1), x.shattered(0));
      }
    });
    Document.says("Throws `IndexOutOfBoundsException` if there is no such family", () -> Bench.refusedFamilies((x, f) -> x.shattered(f)));
  }

  private static void crossing() {
    Document.section("Promise 24: crossing");
    Document.says("Returns the first pair of sets by which two families are not cross-intersecting: by the code of the set of the"
        + " first family, and then by that of the set of the second one.", () -> {
      SetFamilies x = Bench.with(10, "0,1,9", "01,12,2,02");
      // 0 misses 2 and 12, 1 misses 2 and 02.
      Check.due("crossing(0, 1)", 1024 * 1 + 4, x.crossing(0, 1));
      Check.due("crossing(1, 0)", 1024 * 3 + 512, x.crossing(1, 0));
      x.remove(0, 512);
      Check.due("crossing(1, 0) without 9", 1024 * 4 + 1, x.crossing(1, 0));
    });
    Document.says("- `first`: 0 to 3", () -> Bench.eachFamily(() -> Bench.with(6, "0", "1", "2", "012"),
        (x, first) -> x.crossing(first, 0), NONE, 1024 * 2 + 1, 1024 * 4 + 1, NONE));
    Document.says("- `second`: 0 to 3", () -> Bench.eachFamily(() -> Bench.with(6, "0", "1", "2", "012"),
        (x, second) -> x.crossing(1, second), 1024 * 2 + 1, NONE, 1024 * 2 + 4, NONE));
    Document.says("Returns 1024 * (set of the first family) + (set of the second family); NONE if they are cross-intersecting.", () -> {
      for (int n = 1; n <= 10; n++) {
        SetFamilies x = Bench.full(n);
        int all = Bench.everything(n);
        // By rows: all sets, the empty set alone, the set of all elements alone, no sets.
        int[][] wants = {{0, 0, all, NONE}, {0, 0, all, NONE}, {1024 * all, 1024 * all, NONE, NONE}, {NONE, NONE, NONE, NONE}};
        for (int f = 0; f < 4; f++) {
          for (int g = 0; g < 4; g++) {
            Check.due("crossing(" + f + ", " + g + ") with n = " + n, wants[f][g], x.crossing(f, g));
          }
        }
      }
      SetFamilies x = Bench.with(10, "012345678", "9");
      Check.due("complements", 1024 * 511 + 512, x.crossing(0, 1));
      Check.due("complements the other way", 1024 * 512 + 511, x.crossing(1, 0));
    });
    Document.says("Throws `IndexOutOfBoundsException` if there is no such family", () -> {
      Bench.refusedFamilies((x, first) -> x.crossing(first, 0));
      Bench.refusedFamilies((x, second) -> x.crossing(0, second));
      Bench.refused(Bench.INDEX, 6, "crossing(-1, 4)", x -> x.crossing(-1, 4));
    });
  }

  private static void sunflowerIs(int n, String text, int core) {
    Check.due("sunflower of '" + text + "' with n = " + n, core, Bench.with(n, text).sunflower(0));
  }

  private static void sunflower() {
    Document.section("Promise 25: sunflower");
    Document.says("Returns the least core (by its code) of a sunflower of three sets of a family.", () -> {
      sunflowerIs(10, "45,46,47,01,02,03", 1);
      sunflowerIs(10, "45,46,47,01,02", 16);
      sunflowerIs(10, "0789,1789,789", 896);
      sunflowerIs(10, "23456789,123456789,023456789", 1020);
      sunflowerIs(10, "0,1,2,01,02,03", 0);
    });
    Document.says("- `family`: 0 to 3", () -> Bench.eachFamily(() -> Bench.with(6, "01,02,03", "0,1,2", "01,12,02", "01,12,13"),
        (x, f) -> x.sunflower(f), 1, 0, NONE, 2));
    Document.says("Returns the code of the core; NONE if there is no such sunflower.", () -> {
      for (int n = 1; n <= 10; n++) {
        SetFamilies x = Bench.full(n);
        Check.due("all sets, n = " + n, n == 1 ? NONE : 0, x.sunflower(0));
        Check.due("the empty set, n = " + n, NONE, x.sunflower(1));
        Check.due("the set of all elements, n = " + n, NONE, x.sunflower(2));
        Check.due("no sets, n = " + n, NONE, x.sunflower(3));
      }
      sunflowerIs(2, "0,1", NONE);
      sunflowerIs(2, "-,0,1", 0);
      sunflowerIs(2, "-,0,01", NONE);
      sunflowerIs(3, "01,12,02", NONE);
      // The two chains lead the search to the greatest cores.
      sunflowerIs(10, "0123456789,012345678,01234567", NONE);
      sunflowerIs(10, "0123456789,123456789,23456789", NONE);
    });
    Document.says("Throws `IndexOutOfBoundsException` if there is no such family", () -> Bench.refusedFamilies((x, f) -> x.sunflower(f)));
  }

  private static void pairs() {
    Document.section("Promise 26: pairs");
    Document.says("Returns how many pairs of different sets of a family have a given number of elements in common.", () -> {
      SetFamilies x = Bench.with(8, "06,16,01,067,-");
      int[] counts = {4, 5, 1, 0, 0, 0, 0, 0, 0};
      for (int c = 0; c <= 8; c++) {
        Check.due("pairs(0, " + c + ")", counts[c], x.pairs(0, c));
      }
    });
    Document.says("- `family`: 0 to 3", () -> Bench.eachFamily(() -> Bench.with(6, "0", "0,1,2,3", "0,1", "0,1,2"),
        (x, f) -> x.pairs(f, 0), 0, 6, 1, 3));
    Document.says("- `common`: 0 to n", () -> {
      for (int n : Bench.GROUNDS) {
        Bench.ends(n, 0, n, (x, common) -> x.pairs(3, common));
      }
    });
    Document.says("Returns the number of pairs.", () -> {
      Check.due("all sets, n = 1, 0 in common", 1, Bench.full(1).pairs(0, 0));
      Check.due("all sets, n = 1, 1 in common", 0, Bench.full(1).pairs(0, 1));
      int[] all = {29524, 98410, 147600, 131160, 76440, 30492, 8400, 1560, 180, 10, 0};
      SetFamilies x = Bench.full(10);
      for (int c = 0; c <= 10; c++) {
        Check.due("all sets, n = 10, " + c + " in common", all[c], x.pairs(0, c));
      }
      for (int n : Bench.GROUNDS) {
        Check.due("all sets, all but one in common, n = " + n, n, Bench.full(n).pairs(0, n - 1));
        for (int c = 0; c <= n; c++) {
          for (int f = 1; f < 4; f++) {
            Check.due("pairs(" + f + ", " + c + ") with n = " + n, 0, Bench.full(n).pairs(f, c));
          }
        }
      }
    });
    Document.says("Throws `IndexOutOfBoundsException` if there is no such family", () -> Bench.refusedFamilies((x, f) -> x.pairs(f, 0)));
    Document.says("Throws `IllegalArgumentException` if common is out of range", () -> {
      for (int n : Bench.GROUNDS) {
        Bench.refusedBeyond(n, 0, n, (x, common) -> x.pairs(1, common));
      }
    });
  }
}
