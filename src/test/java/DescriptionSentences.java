import java.util.ArrayList;
import java.util.List;

/** The sentences of "What it is", "Description" and "Not promised". */
final class DescriptionSentences {
  private static final int NONE = SetFamilies.NONE;

  private DescriptionSentences() {}

  static void all() {
    numberOfCalls();
    Document.section("Description");
    setsAndFamilies();
    shadowsAndCompressions();
    colexOrderAndCascades();
    antichains();
    shattering();
    texts();
    undo();
    exceptions();
    constants();
    notPromised();
  }

  private static void numberOfCalls() {
    Document.section("What it is");
    Document.namesNoCase("A workbench for families of finite sets: shadows and upper shadows, compressions, initial segments in colex"
        + " order, cascades and the bounds that follow from them, antichains and their weight, blockers, traces and shattered sets,"
        + " sunflowers, closures, cross-intersecting pairs, and families that are read from a text.");
    Document.says("An object is used for at most 512 calls after it has been made; what later calls answer is free.", () -> {
      SetFamilies x = new SetFamilies();
      NaiveFamilies model = new NaiveFamilies();
      for (int call = 1; call <= 511; call++) {
        int f = call % 4;
        int s = call * 11 % 64;
        if (call % 5 == 4) {
          Check.due("undo() as call " + call, model.undo(), x.undo());
        } else {
          Check.due("add as call " + call, Bench.bit(model.add(f, s)), Bench.bit(x.add(f, s)));
        }
      }
      Check.due("digest() as call 512", model.digest(), x.digest());
    });
  }

  // ---- SETS AND FAMILIES

  private static void setsAndFamilies() {
    Document.says("The ground set has the elements 0 to n - 1; n is from 1 to 10, and 6 at first.", () -> {
      Check.due("n at first", 6, Bench.elements(new SetFamilies()));
      Check.due("n at first, as it is told later", 6, new SetFamilies().setGround(1));
      Check.due("the last element at first", 0, new SetFamilies().degree(0, 5));
      Check.turnedDown("one more element at first", () -> new SetFamilies().degree(0, 6));
      for (int n = 1; n <= 10; n++) {
        int last = n - 1;
        SetFamilies x = Bench.with(n, "0", "" + last);
        Check.due("element 0 with n = " + n, 1, x.degree(0, 0));
        Check.due("element " + last + " with n = " + n, 1, x.degree(1, last));
        Check.turnedDown("element -1", () -> x.degree(0, -1));
        Check.turnedDown("element " + (last + 1) + " with n = " + n, () -> x.degree(0, last + 1));
      }
      Check.turnedDown("n = 0", () -> new SetFamilies().setGround(0));
      Check.turnedDown("n = 11", () -> new SetFamilies().setGround(11));
    });
    Document.says("A set is given by its code, the sum of 2 to the power of x over its elements x; codes are from 0 (the empty set) to 2"
        + " to the power of n, minus 1.", () -> {
      for (int n = 1; n <= 10; n++) {
        SetFamilies x = Bench.with(n, "-", "0123456789".substring(0, n), "" + (n - 1));
        Check.due("the empty set", 0, x.get(0, 0));
        Check.due("all elements with n = " + n, (1 << n) - 1, x.get(1, 0));
        Check.due("the last element with n = " + n, 1 << (n - 1), x.get(2, 0));
        Check.turnedDown("code -1", () -> Bench.bit(x.has(0, -1)));
        int beyond = 1 << n;
        Check.turnedDown("code " + beyond + " with n = " + n, () -> Bench.bit(x.has(0, beyond)));
      }
      Bench.holds("0, 3 and 7", Bench.with(8, "037"), 0, "137");
    });
    Document.says("Sets are ordered by their codes; for sets of the same size this is the colex order.", () -> {
      SetFamilies x = Bench.with(10, "0123456789,-,9,012345,6,5");
      Bench.holds("by codes", x, 0, "0 32 63 64 512 1023");
      x.segment(1, 2, 45);
      // Of two sets of size 2, the one with the lesser greatest element comes first.
      Check.due("89 is the last one", 768, x.get(1, 44));
      Check.due("09 is the first one with 9", 513, x.get(1, 36));
      Check.due("78 comes before it", 384, x.get(1, 35));
    });
    Document.says("There are four families of sets, numbered from 0, all empty at first.", () -> {
      SetFamilies x = new SetFamilies();
      for (int f = 0; f < 4; f++) {
        Check.due("family " + f + " at first", 0, x.size(f, NONE));
      }
      Check.throwsA(Bench.INDEX, "family -1", () -> x.size(-1, NONE));
      Check.throwsA(Bench.INDEX, "family 4", () -> x.size(4, NONE));
      for (int f = 0; f < 4; f++) {
        x.add(f, f);
      }
      Check.same("each has its own sets", "6:0|1|2|3", Bench.families(x));
    });
    Document.says("The sets of size k of a family form its level k.", () -> {
      SetFamilies x = Bench.with(10, "-,0,9,01,89,0123456789");
      int[] levels = {1, 2, 2, 0, 0, 0, 0, 0, 0, 0, 1};
      for (int k = 0; k <= 10; k++) {
        Check.due("level " + k, levels[k], x.size(0, k));
      }
    });
    Document.says("\"How many\" always means a number of sets.", () -> {
      // Each set has two elements, which do not count.
      SetFamilies x = Bench.with(4, "02,12,23");
      Check.due("size(0, 2)", 3, x.size(0, 2));
      Check.due("degree(0, 2)", 3, x.degree(0, 2));
      Check.due("derive(1, MINIMAL, 0)", 3, x.derive(1, SetFamilies.MINIMAL, 0));
      Check.due("combine(1, UNION, 0, 0)", 3, x.combine(1, SetFamilies.UNION, 0, 0));
      Check.due("trace(1, 0, 15)", 3, x.trace(1, 0, 15));
      Check.due("compress(1, 2, 0)", 2, x.compress(1, 2, 0));
      Check.due("read(1)", 3, x.read(1));
    });
    Document.says("In all methods that lay a family at a place, the place may be one of those that are read; it is replaced at the"
        + " end.", DescriptionSentences::samePlaces);
  }

  private static void samePlaces() {
    for (int n : new int[] {3, 10}) {
      for (int operation = SetFamilies.UNION; operation <= SetFamilies.SYMMETRIC; operation++) {
        combineAtPlaces(n, operation, 0, 1);
        combineAtPlaces(n, operation, 1, 0);
        combineAtPlaces(n, operation, 0, 0);
      }
      for (int operation = SetFamilies.SHADOW; operation <= SetFamilies.INTERSECTIONS; operation++) {
        int now = operation;
        sameAtItsPlace("derivation " + now + " with n = " + n, n, (x, place) -> x.derive(place, now, 0));
      }
      sameAtItsPlace("trace with n = " + n, n, (x, place) -> x.trace(place, 0, 6));
    }
  }

  /** What is laid at the family's own place is what is laid elsewhere. */
  private static void sameAtItsPlace(String name, int n, Bench.CallWith call) {
    SetFamilies apart = Bench.with(n, "-,01,12,2");
    SetFamilies same = Bench.with(n, "-,01,12,2");
    Check.due("the answer of " + name, call.on(apart, 1), call.on(same, 0));
    // The one is moved to place 0, the other stays there: as many calls, so that the digests can be compared.
    apart.combine(0, SetFamilies.UNION, 1, 1);
    apart.combine(1, SetFamilies.DIFFERENCE, 1, 1);
    same.combine(0, SetFamilies.UNION, 0, 0);
    same.combine(1, SetFamilies.DIFFERENCE, 1, 1);
    Check.due("the digest after " + name, apart.digest(), same.digest());
  }

  private static void combineAtPlaces(int n, int operation, int first, int second) {
    SetFamilies apart = Bench.with(n, "-,0,01", "0,1");
    apart.combine(2, operation, first, second);
    for (int place = 0; place < 2; place++) {
      SetFamilies same = Bench.with(n, "-,0,01", "0,1");
      same.combine(place, operation, first, second);
      Check.same("operation " + operation + " of " + first + " and " + second + " at " + place,
          Bench.codes(apart, 2), Bench.codes(same, place));
      Check.same("the other family", Bench.codes(apart, 1 - place), Bench.codes(same, 1 - place));
    }
  }

  // ---- SHADOWS AND COMPRESSIONS

  private static void shadowsAndCompressions() {
    Document.says("The shadow of a family consists of all sets that come from one of its sets by removing one element; the upper shadow"
        + " of all sets that come from one of its sets by adding one element.", () -> {
      SetFamilies x = Bench.with(10, "-,9,078");
      x.derive(1, SetFamilies.SHADOW, 0);
      Bench.holds("the shadow", x, 1, "0 129 257 384");
      Check.due("the upper shadow", 10 + 9 + 7, x.derive(1, SetFamilies.UPPER_SHADOW, 0));
      Check.no("a set that needs two more elements", x.has(1, 7));
      Check.due("the shadow of the empty set", 0, Bench.full(6).derive(3, SetFamilies.SHADOW, 1));
      Check.due("the upper shadow of all elements", 0, Bench.full(6).derive(3, SetFamilies.UPPER_SHADOW, 2));
    });
    Document.says("The compression from j to i, for two different elements, replaces, all at the same time, each set of the family that"
        + " contains j and not i by the set with i instead of j, unless this is in the family.", () -> {
      compressed("3", 3, 1, "2");
      compressed("13", 3, 1, "10");
      compressed("1,3", 3, 1, "2 8");
      compressed("-", 3, 1, "0");
      compressed("1", 3, 1, "2");
      // At the same time: what is moved does not stand in the way of others, nor make way for them.
      compressed("03,3,23,02", 3, 0, "1 5 9 12");
      compressed("03,13,01", 3, 1, "3 9 10");
      compressed("0,1", 0, 9, "2 512");
      compressed("9,89", 9, 0, "1 257");
    });
    Document.says("To shift a family means: for i from 0 to n - 2 and, for each i, for j from i + 1 to n - 1, the compression from j to i"
        + " is done; this is repeated until all compressions of one repetition change nothing.", () -> {
      // The order tells how many there are: from 2 to 0, and then from 4 to 1.
      shifted(5, "24", 2, "3");
      shifted(10, "9", 1, "1");
      shifted(10, "89", 2, "3");
      shifted(10, "0123456789", 0, "1023");
      shifted(10, "56789,-", 5, "0 31");
      shifted(1, "0,-", 0, "0 1");
      shifted(2, "1", 1, "1");
      shifted(3, "1,2", 2, "1 2");
      shifted(4, "", 0, "");
      for (String text : new String[] {"05,23,14", "345,012,135,024", "5,4,35,125", "01,23,45,0,5"}) {
        SetFamilies x = Bench.with(6, text);
        x.shift(0);
        Check.yes("no compression changes the shifted '" + text + "'", x.is(0, 5));
        Check.due("shifting it again", 0, x.shift(0));
      }
    });
  }

  private static void compressed(String text, int j, int i, String want) {
    SetFamilies x = Bench.with(10, text);
    x.compress(0, j, i);
    Bench.holds("'" + text + "' from " + j + " to " + i, x, 0, want);
  }

  private static void shifted(int n, String text, int replaced, String want) {
    SetFamilies x = Bench.with(n, text);
    Check.due("shifting '" + text + "' with n = " + n, replaced, x.shift(0));
    Bench.holds("'" + text + "' shifted", x, 0, want);
  }

  // ---- COLEX ORDER AND CASCADES

  private static void colexOrderAndCascades() {
    Document.says("The initial segment of m sets of size k consists of the first m sets of size k.", () -> {
      String[] wants = {"", "7", "7 11", "7 11 13", "7 11 13 14"};
      for (int m = 0; m <= 4; m++) {
        SetFamilies x = Bench.with(4);
        x.segment(0, 3, m);
        Bench.holds("the first " + m + " sets of size 3", x, 0, wants[m]);
      }
    });
    Document.says("The rank of a set is the number of sets of its size, with any natural numbers as elements, that come before it in colex"
        + " order.", () -> {
      for (int low = 0; low < 1024; low += 256) {
        SetFamilies x = Bench.with(1);
        for (int s = low; s < low + 256; s++) {
          int before = 0;
          for (int t = 0; t < s; t++) {
            before += Integer.bitCount(t) == Integer.bitCount(s) ? 1 : 0;
          }
          Check.due("rank(" + s + ")", before, x.rank(s));
        }
      }
    });
    Document.says("The cascade of m at k (m and k at least 1) is the sequence of numbers a(k), a(k - 1), ..., a(t) with t of at least 1 for"
        + " which m is the sum of the binomial coefficients (a(i) over i), found like this: a(k) is the greatest number for which (a(k)"
        + " over k) is at most m; if something is left of m, a(k - 1) is the greatest number for which (a(k - 1) over k - 1) is at most"
        + " the rest; and so on.", () -> {
      for (int k = 1; k <= 10; k++) {
        for (int m : new int[] {1, 2, 3, 9, 10, 11, 12, 54, 55, 56, 251, 252, 253, 99999, 100000, 999999, 1000000}) {
          cascadeAddsUp(m, k);
        }
      }
      Check.turnedDown("m = 0", () -> new SetFamilies().cascade(0, 1, 0));
      Check.turnedDown("k = 0", () -> new SetFamilies().cascade(1, 0, 0));
    });
    Document.says("The shadow bound of m at k is the sum of (a(i) over i - 1) over the cascade.", () -> {
      for (int k = 1; k <= 10; k++) {
        for (int m : new int[] {1, 2, 10, 11, 55, 251, 252, 253, 99999, 1000000}) {
          SetFamilies x = new SetFamilies();
          long sum = 0;
          for (int i = k; i >= 1 && x.cascade(m, k, k - i) != NONE; i--) {
            sum += over(x.cascade(m, k, k - i), i - 1);
          }
          Check.due("shadowBound(" + m + ", " + k + ")", sum, x.shadowBound(m, k));
        }
      }
    });
  }

  private static long over(int a, int b) {
    long value = 1;
    for (int i = 0; i < b; i++) {
      value = value * (a - i) / (i + 1);
    }
    return value;
  }

  private static void cascadeAddsUp(int m, int k) {
    SetFamilies x = new SetFamilies();
    long rest = m;
    for (int i = k; i >= 1 && rest > 0; i--) {
      int a = x.cascade(m, k, k - i);
      String name = "a(" + i + ") of " + m + " at " + k;
      Check.yes(name + " is not too great", a >= i && over(a, i) <= rest);
      Check.yes(name + " is the greatest", over(a + 1, i) > rest);
      rest -= over(a, i);
      Check.due("behind " + name + " the cascade goes on", Bench.bit(rest > 0), Bench.bit(x.cascade(m, k, k - i + 1) != NONE));
    }
    Check.due("what is left of " + m + " at " + k, 0, rest);
  }

  // ---- ANTICHAINS, BLOCKERS, TRACES

  private static void antichains() {
    Document.says("A family is an antichain if no set of it is a proper subset of another one.", () -> {
      String[] texts = {"", "-", "0", "01,12,02", "0,1,2,3,4,5,6,7,8,9", "0,01", "-,9", "0,0123456789", "012,01", "9,89"};
      for (int i = 0; i < texts.length; i++) {
        Check.due("'" + texts[i] + "'", Bench.bit(i < 5), Bench.bit(Bench.with(10, texts[i]).is(0, 0)));
      }
    });
    Document.says("The weight of a family is the sum of 1 / (n over size) over its sets, a fraction in lowest terms (0 / 1 for the empty"
        + " family).", () -> {
      weighs(6, "", 0, 1);
      weighs(1, "", 0, 1);
      weighs(10, "", 0, 1);
      weighs(6, "-", 1, 1);
      weighs(6, "0,1,2", 1, 2);
      weighs(4, "01,02,0", 7, 12);
      weighs(10, "01234,0123", 11, 1260);
    });
    Document.says("A set hits a family if it has an element in common with each of its sets.", () -> {
      // The empty set hits the empty family, and no set hits the empty set.
      blocked(3, "", "0");
      blocked(3, "-", "");
      blocked(3, "-,0", "");
      blocked(3, "0,1,2", "7");
      blocked(10, "9", "512");
    });
    Document.says("The blocker of a family consists of the sets that hit it and no proper subset of which does.", () -> {
      blocked(3, "01,12", "2 5");
      blocked(3, "01,12,02", "3 5 6");
      blocked(1, "0", "1");
      blocked(1, "", "0");
      blocked(10, "0123456789", "1 2 4 8 16 32 64 128 256 512");
      blocked(10, "89,7", "384 640");
    });
    Document.says("The trace of a family on a set s consists of the intersections of its sets with s.", () -> {
      traced(6, "", 63, "");
      traced(6, "", 0, "");
      traced(6, "012,3", 0, "0");
      traced(6, "012,3", 6, "0 6");
      traced(6, "012,3", 63, "7 8");
      traced(10, "0123456789,9,-", 768, "0 512 768");
      traced(1, "0,-", 1, "0 1");
      traced(1, "0,-", 0, "0");
    });
  }

  private static void weighs(int n, String text, long numerator, long denominator) {
    SetFamilies x = Bench.with(n, text);
    Check.due("the numerator of '" + text + "'", numerator, x.weight(0, false));
    Check.due("the denominator of '" + text + "'", denominator, x.weight(0, true));
  }

  private static void blocked(int n, String text, String want) {
    SetFamilies x = Bench.with(n, text);
    x.derive(1, SetFamilies.BLOCKER, 0);
    Bench.holds("the blocker of '" + text + "' with n = " + n, x, 1, want);
  }

  private static void traced(int n, String text, int set, String want) {
    SetFamilies x = Bench.with(n, text);
    x.trace(1, 0, set);
    Bench.holds("the trace of '" + text + "' on " + set, x, 1, want);
  }

  private static void shattering() {
    Document.says("The family shatters s if its trace on s has all subsets of s.", () -> {
      // One subset too few of the last two elements, and then all four.
      Check.due("three subsets", 1, Bench.with(10, "-,8,9").dimension(0));
      Check.due("four subsets", 2, Bench.with(10, "-,8,9,89").dimension(0));
      Check.due("four subsets by greater sets", 2, Bench.with(10, "0,18,29,389").dimension(0));
      Check.due("the set that they shatter", 768, Bench.with(10, "0,18,29,389").shattered(0));
      Check.due("the empty set is shattered by one set", 0, Bench.with(10, "09").shattered(0));
    });
    Document.says("Its dimension is the greatest size of a set that it shatters (NONE for the empty family).", () -> {
      Check.due("the empty family", NONE, new SetFamilies().dimension(0));
      Check.due("the empty family with n = 1", NONE, Bench.with(1).dimension(3));
      Check.due("the empty family with n = 10", NONE, Bench.with(10).dimension(2));
      Check.due("one set", 0, Bench.with(1, "0").dimension(0));
      Check.due("two sets", 1, Bench.with(1, "0,-").dimension(0));
      Check.due("all sets", 10, Bench.full(10).dimension(0));
    });
    Document.says("Two or more different sets form a sunflower if the intersection of any two of them is the same set, its core.", () -> {
      int[] cores = {0, 1, 0, NONE, NONE, 1, 512, NONE, NONE};
      String[] texts = {"0,1,2", "01,02,03", "-,0,9", "01,02", "01,02,12", "0,01,02", "89,79,9", "-,0,01", ""};
      for (int i = 0; i < texts.length; i++) {
        Check.due("the core of '" + texts[i] + "'", cores[i], Bench.with(10, texts[i]).sunflower(0));
      }
    });
    Document.says("Two families are cross-intersecting if each set of the first one has an element in common with each set of the second"
        + " one.", () -> {
      SetFamilies x = Bench.with(10, "09,19", "01,9", "0,1");
      Check.due("cross-intersecting", NONE, x.crossing(0, 1));
      Check.due("not", 1024 * 513 + 2, x.crossing(0, 2));
      Check.due("with no sets", NONE, x.crossing(0, 3));
      x.add(3, 0);
      Check.due("with the empty set", 1024 * 513, x.crossing(0, 3));
      Check.due("the empty set with itself", 0, x.crossing(3, 3));
    });
  }

  // ---- TEXTS

  private static void texts() {
    Document.says("The text has at most 120 bytes.", () -> {
      SetFamilies x = new SetFamilies();
      for (int i = 1; i <= 120; i++) {
        x.type('0');
      }
      Check.throwsA(Bench.STATE, "byte 121", () -> x.type('0'));
      Check.due("the length", 120, x.clearText());
    });
    Document.says("It describes a family: sets, separated by commas, possibly none.", () -> {
      read(6, "", 0, "");
      read(6, "0", 1, "1");
      read(6, "0,1", 2, "1 2");
      read(6, "0,1,23,-", 4, "0 1 2 12");
      read(6, "-".concat(",-".repeat(59)), 1, "0");
    });
    Document.says("A set is its elements, written as digits in ascending order; the empty set is written as -.", () -> {
      read(6, "-", 1, "0");
      read(6, "05", 1, "33");
      read(6, "012345", 1, "63");
      read(6, "50", -11, "");
      read(6, "-0", -11, "");
      read(6, "0-", -11, "");
      read(10, "0123456789", 1, "1023");
      read(10, "9", 1, "512");
      read(1, "0", 1, "1");
    });
    Document.says("A set may stand there several times.", () -> {
      read(6, "0,0", 1, "1");
      read(6, "-,-,-", 1, "0");
      read(6, "01,2,01,2", 2, "3 4");
    });
    Document.says("The fault of a text is the index of the first byte that cannot stand at its place (a digit that is no element, or not"
        + " greater than the one before in its set), or the length of the text if it ends behind a comma.",
        DescriptionSentences::faults);
  }

  private static void read(int n, String text, int want, String codes) {
    SetFamilies x = Bench.with(n);
    Check.due("read of '" + text + "' with n = " + n, want, Bench.read(x, 0, text));
    Bench.holds("the family of '" + text + "'", x, 0, codes);
  }

  private static void faults() {
    for (int n : Bench.GROUNDS) {
      for (int value = 0; value < 128; value++) {
        boolean element = value >= '0' && value < '0' + n;
        boolean comma = value == ',';
        faultIs(n, "", value, element || value == '-' ? 1 : -10);
        faultIs(n, "0", value, comma ? -12 : element && value > '0' ? 1 : -11);
        faultIs(n, "-", value, comma ? -12 : -11);
        faultIs(n, "0,", value, value == '0' ? 1 : element || value == '-' ? 2 : -12);
        faultIs(n, "-,-,", value, value == '-' ? 1 : element ? 2 : -14);
        faultIs(n, "x", value, -10);
        faultIs(n, "0,".repeat(59) + "0", value, comma ? -130 : element && value > '0' ? 2 : -129);
      }
    }
    read(10, "0,1,21,2", -15, "");
    read(10, "0,1,22", -15, "");
    // The digit before a comma is of another set.
    read(10, "9,0", 2, "1 512");
    read(5, "01234,5,x", -16, "");
    read(6, ",,", -10, "");
    read(6, "0,,1", -12, "");
  }

  private static void faultIs(int n, String start, int value, int want) {
    SetFamilies x = Bench.with(n);
    Bench.type(x, start);
    x.type(value);
    Check.due("read of '" + start + "' and byte " + value + " with n = " + n, want, x.read(0));
  }

  // ---- UNDO

  /** One call of each undoable method that changes nothing, if family 0 has 0 and - with n = 6. */
  private static List<Bench.Call> idleCalls() {
    List<Bench.Call> calls = new ArrayList<>();
    calls.add(x -> Bench.bit(x.add(0, 1)));
    calls.add(x -> Bench.bit(x.remove(0, 2)));
    calls.add(x -> x.combine(0, SetFamilies.INTERSECTION, 0, 0));
    calls.add(x -> x.derive(0, SetFamilies.DOWN_SET, 0));
    calls.add(x -> x.compress(0, 5, 4));
    calls.add(x -> x.shift(0));
    calls.add(x -> x.trace(0, 0, 63));
    calls.add(x -> x.segment(3, 2, 0));
    calls.add(x -> x.read(0));
    return calls;
  }

  /** One call of each undoable method that changes something, if family 0 has 5 and n = 6. */
  private static List<Bench.Call> changingCalls() {
    List<Bench.Call> calls = new ArrayList<>();
    calls.add(x -> x.setGround(10));
    calls.add(x -> Bench.bit(x.add(3, 63)));
    calls.add(x -> Bench.bit(x.remove(0, 32)));
    calls.add(x -> x.combine(1, SetFamilies.UNION, 0, 0));
    calls.add(x -> x.derive(0, SetFamilies.UP_SET, 0));
    calls.add(x -> x.compress(0, 5, 0));
    calls.add(x -> x.shift(0));
    calls.add(x -> x.trace(2, 0, 0));
    calls.add(x -> x.segment(3, 2, 3));
    calls.add(x -> x.read(1));
    return calls;
  }

  /** One call of each method that is not undoable, and refused calls of those that are. */
  private static List<Bench.Call> otherCalls() {
    List<Bench.Call> calls = new ArrayList<>();
    calls.add(x -> Bench.bit(x.has(0, 0)));
    calls.add(x -> x.size(0, NONE) + x.get(0, 0) + x.degree(0, 0));
    calls.add(x -> x.rank(1) + x.unrank(1, 1) + x.cascade(1, 1, 0) + x.shadowBound(1, 1));
    calls.add(x -> x.excess(0, 1) + Bench.bit(x.is(0, 0)) + x.weight(0, true) + x.dimension(0));
    calls.add(x -> x.shattered(0) + x.crossing(0, 0) + x.sunflower(0) + x.pairs(0, 0) + x.digest());
    calls.add(x -> x.type('0'));
    calls.add(x -> x.clearText());
    calls.add(x -> x.type(',') + x.read(0));
    calls.add(x -> x.setGround(11));
    calls.add(x -> Bench.bit(x.add(0, 64)));
    calls.add(x -> Bench.bit(x.remove(4, 0)));
    calls.add(x -> x.combine(0, 4, 0, 0));
    calls.add(x -> x.derive(4, 0, 0));
    calls.add(x -> x.compress(0, 0, 0));
    calls.add(x -> x.shift(-1));
    calls.add(x -> x.trace(0, 0, 64));
    calls.add(x -> x.segment(0, 0, 2));
    calls.add(x -> x.read(4));
    return calls;
  }

  private static void undo() {
    Document.says("Every method that is marked \"undoable\" saves n and the families on an undo stack when it ends normally, also if it"
        + " changes nothing.", () -> {
      for (Bench.Call call : idleCalls()) {
        savesOne("0,-", call);
      }
      savesOne("", x -> x.setGround(6));
      for (Bench.Call call : changingCalls()) {
        savesOne("5", call);
      }
      for (Bench.Call call : otherCalls()) {
        SetFamilies x = Bench.with(6, "0,-");
        Check.outcome(() -> call.on(x));
        Check.due("undo() after a call that saves nothing", 1, x.undo());
      }
    });
    Document.says("The saved state is the one from before the call.", () -> {
      for (Bench.Call call : changingCalls()) {
        Bench.undoable(() -> Bench.with(6, "5"), "the call", true, call);
      }
      SetFamilies x = new SetFamilies();
      x.add(0, 1);
      x.add(0, 2);
      x.undo();
      Check.same("before add(0, 2)", "6:1|||", Bench.families(x));
    });
    Document.says("The stack keeps the latest 4 saved states and drops older ones.", () -> {
      for (int calls = 0; calls <= 12; calls++) {
        SetFamilies x = new SetFamilies();
        for (int i = 0; i < calls; i++) {
          x.add(0, i);
        }
        for (int left = Math.min(4, calls); left > 0; left--) {
          x.undo();
        }
        Check.due("what " + calls + " calls leave when all is undone", Math.max(0, calls - 4), x.size(0, NONE));
        Check.throwsA(Bench.STATE, "one undo() more after " + calls + " calls", x::undo);
      }
      wrapsRound();
    });
  }

  private static void savesOne(String text, Bench.Call call) {
    SetFamilies x = Bench.with(6, text);
    call.on(x);
    Check.due("undo() after one more call", 2, x.undo());
  }

  /** Calls and undos in turn, with each number of each, so that the stack's rows go round. */
  private static void wrapsRound() {
    for (int undos = 1; undos <= 4; undos++) {
      SetFamilies x = new SetFamilies();
      NaiveFamilies model = new NaiveFamilies();
      for (int round = 0; round < 10; round++) {
        for (int i = 0; i < 4; i++) {
          int s = (round * 7 + i * 5) % 64;
          x.add(i, s);
          model.add(i, s);
        }
        for (int i = 0; i < undos; i++) {
          Check.due("undo() in round " + round, model.undo(), x.undo());
        }
        Check.due("digest() in round " + round, model.digest(), x.digest());
      }
    }
  }

  // ---- EXCEPTIONS

  private static SetFamilies fullText() {
    SetFamilies x = Bench.busy(6);
    x.clearText();
    Bench.type(x, "0,".repeat(59) + "01");
    return x;
  }

  /** Six calls, of which four are undone: the stack is empty, the families are not. */
  private static SetFamilies allUndone() {
    SetFamilies x = Bench.busy(6);
    for (int i = 0; i < 4; i++) {
      x.undo();
    }
    return x;
  }

  private static void exceptions() {
    Document.says("A call that throws an exception changes nothing.", () -> {
      for (Bench.Maker maker : new Bench.Maker[] {SetFamilies::new, DescriptionSentences::fullText, () -> Bench.busy(6)}) {
        for (Bench.Call call : wrongArguments()) {
          SetFamilies x = maker.make();
          Check.turnedDown("the call", () -> call.on(x));
          Check.same("the state after it", Bench.whole(maker.make()), Bench.whole(x));
        }
      }
      Bench.refused(Bench.STATE, DescriptionSentences::fullText, "type('0') of a full text", x -> x.type('0'));
      Bench.refused(Bench.STATE, SetFamilies::new, "undo() at first", SetFamilies::undo);
      Bench.refused(Bench.STATE, DescriptionSentences::allUndone, "undo() with sets that no state is older than", SetFamilies::undo);
    });
    Document.says("If several exceptions of a method apply, the one that is listed first is thrown.", () -> {
      for (int f : Bench.NO_FAMILIES) {
        for (int wrong : new int[] {-2, 1024, Bench.LEAST, Bench.GREATEST}) {
          for (Bench.Call call : wrongTwice(f, wrong)) {
            Bench.refused(Bench.INDEX, () -> Bench.busy(6), "a call with " + f + " and " + wrong, call);
          }
        }
        Bench.refused(Bench.INDEX, () -> Bench.busy(6), "get(" + f + ", -1)", x -> x.get(f, -1));
        Bench.refused(Bench.INDEX, () -> Bench.busy(6), "compress(" + f + ", 1, 1)", x -> x.compress(f, 1, 1));
        Bench.refused(Bench.INDEX, () -> Bench.busy(6), "segment(" + f + ", 2, 16)", x -> x.segment(f, 2, 16));
      }
      for (int value : new int[] {-1, 128, Bench.LEAST, Bench.GREATEST}) {
        Bench.refused(Bench.ARGUMENT, DescriptionSentences::fullText, "type(" + value + ") of a full text", x -> x.type(value));
      }
    });
    Document.says("NONE is returned only if no exception applies.", () -> {
      Bench.refused(Bench.ARGUMENT, 6, "get(3, -1)", x -> x.get(3, -1));
      Bench.refused(Bench.INDEX, 6, "get(4, 100)", x -> x.get(4, 100));
      Bench.refused(Bench.ARGUMENT, 6, "segment(0, 7, 0)", x -> x.segment(0, 7, 0));
      Bench.refused(Bench.ARGUMENT, 6, "segment(0, -1, 0)", x -> x.segment(0, -1, 0));
      Bench.refused(Bench.INDEX, 6, "segment(4, 2, 0)", x -> x.segment(4, 2, 0));
      Bench.refused(Bench.ARGUMENT, 6, "unrank(11, 1000)", x -> x.unrank(11, 1000));
      Bench.refused(Bench.ARGUMENT, 6, "unrank(0, -1)", x -> x.unrank(0, -1));
      Bench.refused(Bench.ARGUMENT, 6, "cascade(0, 3, 5)", x -> x.cascade(0, 3, 5));
      Bench.refused(Bench.ARGUMENT, 6, "cascade(1, 11, 11)", x -> x.cascade(1, 11, 11));
      Bench.refused(Bench.ARGUMENT, 6, "cascade(1000001, 1, 1)", x -> x.cascade(1000001, 1, 1));
      Bench.refused(Bench.ARGUMENT, 6, "cascade(1, 1, -1)", x -> x.cascade(1, 1, -1));
      Bench.refused(Bench.INDEX, 6, "dimension(4)", x -> x.dimension(4));
      Bench.refused(Bench.INDEX, 6, "shattered(4)", x -> x.shattered(4));
      Bench.refused(Bench.INDEX, 6, "crossing(3, 4)", x -> x.crossing(3, 4));
      Bench.refused(Bench.INDEX, 6, "crossing(4, 3)", x -> x.crossing(4, 3));
      Bench.refused(Bench.INDEX, 6, "sunflower(4)", x -> x.sunflower(4));
    });
  }

  /** Calls of each method, with n = 6, that are wrong in one argument. */
  private static List<Bench.Call> wrongArguments() {
    List<Bench.Call> calls = new ArrayList<>();
    calls.add(x -> x.setGround(0));
    calls.add(x -> x.setGround(11));
    for (int f : new int[] {-1, 4}) {
      calls.add(x -> Bench.bit(x.add(f, 5)));
      calls.add(x -> Bench.bit(x.remove(f, 1)));
      calls.add(x -> Bench.bit(x.has(f, 0)));
      calls.add(x -> x.combine(f, 0, 1, 2));
      calls.add(x -> x.combine(3, 0, f, 2));
      calls.add(x -> x.combine(3, 0, 1, f));
      calls.add(x -> x.derive(f, 1, 0));
      calls.add(x -> x.derive(3, 1, f));
      calls.add(x -> x.compress(f, 1, 0));
      calls.add(x -> x.shift(f));
      calls.add(x -> x.trace(f, 0, 1));
      calls.add(x -> x.trace(3, f, 1));
      calls.add(x -> x.segment(f, 1, 1));
      calls.add(x -> x.read(f));
      calls.add(x -> x.size(f, NONE) + x.get(f, 0) + x.degree(f, 0));
      calls.add(x -> x.weight(f, true) + x.dimension(f) + x.shattered(f) + x.crossing(f, f));
    }
    for (int set : new int[] {-1, 64}) {
      calls.add(x -> Bench.bit(x.add(3, set)));
      calls.add(x -> Bench.bit(x.remove(3, set)));
      calls.add(x -> x.trace(3, 0, set));
      calls.add(x -> x.compress(3, set, 0));
      calls.add(x -> x.compress(3, 0, set));
      calls.add(x -> x.segment(3, set, 0));
      calls.add(x -> x.segment(3, 2, set));
      calls.add(x -> x.combine(3, set, 0, 1));
      calls.add(x -> x.derive(3, set, 0));
    }
    calls.add(x -> x.compress(3, 1, 1));
    calls.add(x -> x.type(-1));
    calls.add(x -> x.type(128));
    return calls;
  }

  /** Calls of each method that lists two exceptions, with no such family and another wrong argument. */
  private static List<Bench.Call> wrongTwice(int f, int wrong) {
    List<Bench.Call> calls = new ArrayList<>();
    calls.add(x -> Bench.bit(x.add(f, wrong)));
    calls.add(x -> Bench.bit(x.remove(f, wrong)));
    calls.add(x -> Bench.bit(x.has(f, wrong)));
    calls.add(x -> x.size(f, wrong));
    calls.add(x -> x.get(f, wrong < 0 ? wrong : -wrong));
    calls.add(x -> x.degree(f, wrong));
    calls.add(x -> x.combine(f, wrong, 0, 0));
    calls.add(x -> x.combine(0, wrong, f, 0));
    calls.add(x -> x.combine(0, wrong, 0, f));
    calls.add(x -> x.derive(f, wrong, 0));
    calls.add(x -> x.derive(0, wrong, f));
    calls.add(x -> x.compress(f, wrong, 0));
    calls.add(x -> x.compress(f, 0, wrong));
    calls.add(x -> x.trace(f, 0, wrong));
    calls.add(x -> x.trace(0, f, wrong));
    calls.add(x -> x.segment(f, wrong, 0));
    calls.add(x -> x.segment(f, 2, wrong));
    calls.add(x -> x.excess(f, wrong));
    calls.add(x -> Bench.bit(x.is(f, wrong)));
    calls.add(x -> x.pairs(f, wrong));
    return calls;
  }

  private static void constants() {
    Document.namesNoCase("The constants:");
    Document.says("- `NONE = -1`: Returned where there is no such value.", () -> {
      Check.due("NONE", -1, NONE);
      SetFamilies x = new SetFamilies();
      Check.due("get(0, 0)", -1, x.get(0, 0));
      Check.due("segment(0, 3, 0)", -1, x.segment(0, 3, 0));
      Check.due("unrank(0, 1)", -1, x.unrank(0, 1));
      Check.due("cascade(1, 1, 1)", -1, x.cascade(1, 1, 1));
      Check.due("dimension(0)", -1, x.dimension(0));
      Check.due("shattered(0)", -1, x.shattered(0));
      Check.due("crossing(0, 1)", -1, x.crossing(0, 1));
      Check.due("sunflower(0)", -1, x.sunflower(0));
    });
    Document.namesNoCase("The constructor and the methods follow, a promise each: the signature, then what it does.");
  }

  private static void notPromised() {
    Document.section("Not promised");
    Document.namesNoCase("How the state is held inside the object is free, as are the speed of each call, the text of toString and the"
        + " behaviour of equals and hashCode.");
    Document.namesNoCase("Use of one object from several threads at once is not promised to be safe.");
    Document.namesNoCase("Nothing is promised beyond the answers and state changes described above, and nothing about an object after its"
        + " 512th call.");
  }
}
