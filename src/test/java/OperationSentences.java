/** The sentences of the promises 9 to 13. */
final class OperationSentences {
  private static final int NONE = SetFamilies.NONE;
  private static final int UNION = SetFamilies.UNION;
  private static final int SHADOW = SetFamilies.SHADOW;
  private static final int INTERSECTIONS = SetFamilies.INTERSECTIONS;

  private OperationSentences() {}

  static void all() {
    combine();
    derive();
    compress();
    shift();
    trace();
  }

  private static void combine() {
    Document.section("Promise 9: combine");
    Document.says("Lays at a place what a family is combined to with another one.", () -> {
      SetFamilies x = Bench.with(3, "0,1", "1,2", "012", "-");
      x.combine(2, UNION, 0, 1);
      Check.same("the union", "3:1 2|2 4|1 2 4|0", Bench.families(x));
      x.combine(3, SetFamilies.INTERSECTION, 0, 1);
      Check.same("the intersection", "3:1 2|2 4|1 2 4|2", Bench.families(x));
    });
    Document.says("Undoable.", () -> {
      Bench.undoable(() -> Bench.with(3, "0", "1"), "a union", true, x -> x.combine(0, UNION, 0, 1));
      Bench.undoable(() -> Bench.with(10, "89", "9"), "a symmetric difference", true, x -> x.combine(3, SetFamilies.SYMMETRIC, 0, 1));
      Bench.undoable(() -> Bench.with(3, "0", "1"), "a union with itself", false, x -> x.combine(0, UNION, 0, 0));
      Bench.undoable(SetFamilies::new, "a union of empty families", false, x -> x.combine(0, UNION, 1, 2));
    });
    Document.says("- `place`: 0 to 3", () -> Bench.eachPlace(() -> Bench.with(2, "0", "1", "01", "-"),
        (x, place) -> x.combine(place, UNION, 0, 1), "2:1 2|2|3|0", "2:1|1 2|3|0", "2:1|2|1 2|0", "2:1|2|3|1 2"));
    Document.says("- `operation`: UNION, INTERSECTION, DIFFERENCE (of the first one without the second one)"
        + " or SYMMETRIC (sets in just one of them)", OperationSentences::combineOperations);
    Document.says("- `first`: 0 to 3", () -> Bench.eachFamily(() -> Bench.with(3, "", "0", "0,1", "0,1,2"),
        (x, first) -> x.combine(3, UNION, first, 0), 0, 1, 2, 3));
    Document.says("- `second`: 0 to 3", () -> Bench.eachFamily(() -> Bench.with(3, "", "0", "0,1", "0,1,2"),
        (x, second) -> x.combine(3, UNION, 0, second), 0, 1, 2, 3));
    Document.says("Returns how many sets the result has.", () -> {
      SetFamilies x = Bench.with(3, "0,1,2", "1,2", "0,1,2");
      Check.due("though the place has more", 2, x.combine(2, SetFamilies.INTERSECTION, 0, 1));
      Check.due("though nothing changes", 3, x.combine(0, UNION, 0, 1));
      Check.due("no sets", 0, x.combine(3, SetFamilies.DIFFERENCE, 1, 0));
      Check.due("all sets with n = 10", 1024, Bench.full(10).combine(3, UNION, 3, 0));
      Check.due("all sets with n = 1", 2, Bench.full(1).combine(3, UNION, 1, 2));
    });
    Document.says("Throws `IndexOutOfBoundsException` if place, first or second is out of range", () -> {
      Bench.refusedFamilies((x, place) -> x.combine(place, UNION, 0, 1));
      Bench.refusedFamilies((x, first) -> x.combine(0, SetFamilies.SYMMETRIC, first, 1));
      Bench.refusedFamilies((x, second) -> x.combine(0, UNION, 1, second));
    });
    Document.says("Throws `IllegalArgumentException` if operation is out of range", () -> {
      Bench.refusedBeyond(1, UNION, SetFamilies.SYMMETRIC, (x, operation) -> x.combine(0, operation, 1, 3));
      Bench.refusedBeyond(10, UNION, SetFamilies.SYMMETRIC, (x, operation) -> x.combine(3, operation, 0, 2));
    });
  }

  private static void combined(int operation, String want) {
    SetFamilies x = Bench.with(2, "-,0,01", "0,1,01");
    x.combine(2, operation, 0, 1);
    Bench.holds("operation " + operation, x, 2, want);
  }

  /** Answers of an operation for: all and all, all and none, none and all, none and none. */
  private static void combinedEnds(int operation, boolean both, boolean first, boolean second) {
    for (int n : Bench.GROUNDS) {
      int all = 1 << n;
      Check.due("all and all, n = " + n, both ? all : 0, Bench.full(n).combine(3, operation, 0, 0));
      Check.due("all and none, n = " + n, first ? all : 0, Bench.full(n).combine(2, operation, 0, 3));
      Check.due("none and all, n = " + n, second ? all : 0, Bench.full(n).combine(2, operation, 3, 0));
      Check.due("none and none, n = " + n, 0, Bench.full(n).combine(0, operation, 3, 3));
    }
  }

  private static void combineOperations() {
    Bench.ends(6, UNION, SetFamilies.SYMMETRIC, (x, operation) -> x.combine(0, operation, 1, 2));
    combined(SetFamilies.UNION, "0 1 2 3");
    combined(SetFamilies.INTERSECTION, "1 3");
    combined(SetFamilies.DIFFERENCE, "0");
    combined(SetFamilies.SYMMETRIC, "0 2");
    combinedEnds(SetFamilies.UNION, true, true, true);
    combinedEnds(SetFamilies.INTERSECTION, true, false, false);
    combinedEnds(SetFamilies.DIFFERENCE, false, true, false);
    combinedEnds(SetFamilies.SYMMETRIC, false, true, true);
  }

  private static void derive() {
    Document.section("Promise 10: derive");
    Document.says("Lays at a place what comes from a family.", () -> {
      SetFamilies x = Bench.with(3, "01", "1,2", "012", "-");
      x.derive(2, SHADOW, 0);
      Check.same("the shadow", "3:3|2 4|1 2|0", Bench.families(x));
      x.derive(3, SetFamilies.COMPLEMENTS, 1);
      Check.same("the complements", "3:3|2 4|1 2|3 5", Bench.families(x));
    });
    Document.says("Undoable.", () -> {
      for (int operation = SHADOW; operation <= INTERSECTIONS; operation++) {
        int now = operation;
        Bench.undoable(() -> Bench.with(8, "07,6", "-"), "operation " + now, true, x -> x.derive(1, now, 0));
      }
      Bench.undoable(() -> Bench.with(3, "01"), "the minimal sets of an antichain", false, x -> x.derive(0, SetFamilies.MINIMAL, 0));
      Bench.undoable(SetFamilies::new, "a shadow of no sets", false, x -> x.derive(3, SHADOW, 0));
    });
    Document.says("- `place`: 0 to 3", () -> Bench.eachPlace(() -> Bench.with(2, "01", "1", "01", "-"),
        (x, place) -> x.derive(place, SHADOW, 0), "2:1 2|2|3|0", "2:3|1 2|3|0", "2:3|2|1 2|0", "2:3|2|3|1 2"));
    Document.says("- `operation`: SHADOW, UPPER_SHADOW, DOWN_SET (all subsets of its sets), UP_SET (all sets that have one of its"
        + " sets as a subset), MINIMAL (its sets of which no proper subset is in it), MAXIMAL (its sets that are no proper subset"
        + " of another one), COMPLEMENTS (the complements of its sets in the ground set), BLOCKER, UNIONS (all unions of one or"
        + " more of its sets), INTERSECTIONS (all intersections of one or more of its sets)", OperationSentences::deriveOperations);
    Document.says("- `family`: 0 to 3", () -> Bench.eachFamily(() -> Bench.with(6, "", "0", "01", "012345"),
        (x, f) -> x.derive(0, SetFamilies.DOWN_SET, f), 0, 2, 4, 64));
    Document.says("Returns how many sets the result has.", () -> {
      SetFamilies x = Bench.with(4, "01,12", "0,1,2,3,-");
      Check.due("though the place has more", 3, x.derive(1, SHADOW, 0));
      Check.due("though nothing changes", 2, x.derive(0, SetFamilies.MAXIMAL, 0));
      Check.due("no sets", 0, x.derive(0, SHADOW, 3));
      Check.due("all sets with n = 10", 1024, Bench.full(10).derive(3, SetFamilies.DOWN_SET, 2));
      Check.due("all sets with n = 1", 2, Bench.full(1).derive(3, SetFamilies.UP_SET, 1));
    });
    Document.says("Throws `IndexOutOfBoundsException` if place or family is out of range", () -> {
      Bench.refusedFamilies((x, place) -> x.derive(place, SHADOW, 0));
      Bench.refusedFamilies((x, f) -> x.derive(0, INTERSECTIONS, f));
    });
    Document.says("Throws `IllegalArgumentException` if operation is out of range", () -> {
      Bench.refusedBeyond(1, SHADOW, INTERSECTIONS, (x, operation) -> x.derive(0, operation, 3));
      Bench.refusedBeyond(10, SHADOW, INTERSECTIONS, (x, operation) -> x.derive(3, operation, 0));
    });
  }

  private static void derived(int operation, String want) {
    SetFamilies x = Bench.with(3, "0,012,2");
    x.derive(1, operation, 0);
    Bench.holds("operation " + operation, x, 1, want);
  }

  private static void deriveOperations() {
    Bench.ends(6, SHADOW, INTERSECTIONS, (x, operation) -> x.derive(0, operation, 3));
    derived(SetFamilies.SHADOW, "0 3 5 6");
    derived(SetFamilies.UPPER_SHADOW, "3 5 6");
    derived(SetFamilies.DOWN_SET, "0 1 2 3 4 5 6 7");
    derived(SetFamilies.UP_SET, "1 3 4 5 6 7");
    derived(SetFamilies.MINIMAL, "1 4");
    derived(SetFamilies.MAXIMAL, "7");
    derived(SetFamilies.COMPLEMENTS, "0 3 6");
    derived(SetFamilies.BLOCKER, "5");
    derived(SetFamilies.UNIONS, "1 4 5 7");
    derived(SetFamilies.INTERSECTIONS, "0 1 4 7");
    for (int n = 1; n <= 10; n++) {
      int all = 1 << n;
      derivedEnds(n, "all sets", 0, all - 1, all - 1, all, all, 1, 1, all, 0, all, all);
      derivedEnds(n, "the empty set", 1, 0, n, 1, all, 1, 1, 1, 0, 1, 1);
      derivedEnds(n, "the set of all elements", 2, n, 0, all, 1, 1, 1, 1, n, 1, 1);
      derivedEnds(n, "no sets", 3, 0, 0, 0, 0, 0, 0, 0, 1, 0, 0);
      derivedFirst(n);
    }
  }

  private static void derivedEnds(int n, String what, int family, int... sizes) {
    for (int operation = SHADOW; operation <= INTERSECTIONS; operation++) {
      Check.due(operation + " of " + what + ", n = " + n, sizes[operation], Bench.full(n).derive(3, operation, family));
    }
  }

  /** Where a full family, or one of one set, leads to one set, it is this one. */
  private static void derivedFirst(int n) {
    SetFamilies x = Bench.full(n);
    x.derive(3, SetFamilies.BLOCKER, 3);
    Check.due("the set that hits no sets", 0, x.get(3, 0));
    x.derive(3, SetFamilies.COMPLEMENTS, 1);
    Check.due("the complement of the empty set", Bench.everything(n), x.get(3, 0));
    x.derive(3, SetFamilies.COMPLEMENTS, 2);
    Check.due("the complement of the set of all elements", 0, x.get(3, 0));
    x.derive(3, SetFamilies.MINIMAL, 0);
    Check.due("the minimal one of all sets", 0, x.get(3, 0));
    x.derive(3, SetFamilies.MAXIMAL, 0);
    Check.due("the maximal one of all sets", Bench.everything(n), x.get(3, 0));
    x.derive(3, SetFamilies.BLOCKER, 2);
    Check.due("the level of what hits the set of all elements", n, x.size(3, 1));
    x.derive(3, SHADOW, 0);
    Check.no("the set of all elements in the shadow of all sets", x.has(3, Bench.everything(n)));
    x.derive(3, SetFamilies.UPPER_SHADOW, 0);
    Check.no("the empty set in the upper shadow of all sets", x.has(3, 0));
  }

  private static void compress() {
    Document.section("Promise 11: compress");
    Document.says("Does a compression of a family.", () -> {
      SetFamilies x = Bench.with(3, "2", "2,12,01,-", "2");
      x.compress(1, 2, 0);
      // 12 stays, since 01 is there.
      Check.same("from 2 to 0", "3:4|0 1 3 6|4|", Bench.families(x));
    });
    Document.says("Undoable.", () -> {
      Bench.undoable(() -> Bench.with(3, "2", "1"), "compress(0, 2, 0)", true, x -> x.compress(0, 2, 0));
      Bench.undoable(() -> Bench.with(3, "0", "1"), "compress(0, 2, 0) without such a set", false, x -> x.compress(0, 2, 0));
      Bench.undoable(() -> Bench.with(10, "9"), "compress(0, 9, 8)", true, x -> x.compress(0, 9, 8));
      Bench.undoable(SetFamilies::new, "compress of no sets", false, x -> x.compress(3, 1, 0));
    });
    Document.says("- `family`: 0 to 3", () -> Bench.eachPlace(() -> Bench.with(2, "1", "1", "1", "1"),
        (x, f) -> x.compress(f, 1, 0), "2:1|2|2|2", "2:2|1|2|2", "2:2|2|1|2", "2:2|2|2|1"));
    Document.says("- `j`: element, 0 to n - 1", () -> {
      for (int n = 3; n <= 10; n++) {
        Bench.ends(n, 0, n - 1, (x, j) -> x.compress(3, j, 1));
        Check.due("from 0 to 1 with n = " + n, 1, Bench.with(n, "0").compress(0, 0, 1));
        Check.due("from the last to 1 with n = " + n, 1, Bench.with(n, "" + (n - 1)).compress(0, n - 1, 1));
      }
    });
    Document.says("- `i`: another element, 0 to n - 1", () -> {
      for (int n = 3; n <= 10; n++) {
        Bench.ends(n, 0, n - 1, (x, i) -> x.compress(3, 1, i));
        Check.due("from 1 to 0 with n = " + n, 1, Bench.with(n, "1").compress(0, 1, 0));
        SetFamilies x = Bench.with(n, "1");
        Check.due("from 1 to the last with n = " + n, 1, x.compress(0, 1, n - 1));
        Check.due("the set then", 1 << (n - 1), x.get(0, 0));
      }
      Check.due("the two elements with n = 2", 1, Bench.with(2, "1").compress(0, 1, 0));
      Check.due("the other way", 1, Bench.with(2, "0").compress(0, 0, 1));
    });
    Document.says("Returns how many sets were replaced.", () -> {
      Check.due("no sets", 0, Bench.with(6).compress(0, 1, 0));
      Check.due("all sets", 0, Bench.full(10).compress(0, 9, 0));
      Check.due("the empty set", 0, Bench.full(10).compress(1, 9, 0));
      Check.due("the set of all elements", 0, Bench.full(10).compress(2, 9, 0));
      Check.due("two of four", 2, Bench.with(3, "2,12,0,02").compress(0, 2, 1));
      SetFamilies x = Bench.with(10, "9");
      x.derive(0, SetFamilies.UP_SET, 0);
      Check.due("half of the sets that contain 9", 256, x.compress(0, 9, 0));
      Check.due("the same again", 0, x.compress(0, 9, 0));
      Check.due("the number of sets stays", 512, x.size(0, NONE));
    });
    Document.says("Throws `IndexOutOfBoundsException` if there is no such family", () -> {
      for (int f : Bench.NO_FAMILIES) {
        Bench.refused(Bench.INDEX, 2, "compress(" + f + ", 1, 0)", x -> x.compress(f, 1, 0));
        Bench.refused(Bench.INDEX, 10, "compress(" + f + ", 9, 8)", x -> x.compress(f, 9, 8));
      }
    });
    Document.says("Throws `IllegalArgumentException` if j or i is out of range, or they are equal", () -> {
      for (int n : Bench.GROUNDS) {
        Bench.refusedBeyond(n, 0, n - 1, (x, j) -> x.compress(3, j, 0));
        Bench.refusedBeyond(n, 0, n - 1, (x, i) -> x.compress(3, 0, i));
        Bench.refused(Bench.ARGUMENT, n, "0 and 0", x -> x.compress(0, 0, 0));
        Bench.refused(Bench.ARGUMENT, n, "the last one twice", x -> x.compress(0, n - 1, n - 1));
        Bench.refused(Bench.ARGUMENT, n, "-1 and -1", x -> x.compress(0, -1, -1));
        Bench.refused(Bench.ARGUMENT, n, "n and n", x -> x.compress(0, n, n));
      }
    });
  }

  private static void shift() {
    Document.section("Promise 12: shift");
    Document.says("Shifts a family.", () -> {
      SetFamilies x = Bench.with(3, "2", "2,12", "2");
      x.shift(1);
      Check.same("shift(1)", "3:4|1 3|4|", Bench.families(x));
    });
    Document.says("Undoable.", () -> {
      Bench.undoable(() -> Bench.with(3, "2", "1"), "shift(0)", true, x -> x.shift(0));
      Bench.undoable(() -> Bench.with(3, "0", "1"), "shift(0) of what is shifted", false, x -> x.shift(0));
      Bench.undoable(() -> Bench.with(10, "56789"), "shift(0) with n = 10", true, x -> x.shift(0));
      Bench.undoable(() -> Bench.with(1, "0"), "shift(0) with n = 1", false, x -> x.shift(0));
      Bench.undoable(SetFamilies::new, "shift of no sets", false, x -> x.shift(3));
    });
    Document.says("- `family`: 0 to 3", () -> Bench.eachPlace(() -> Bench.with(2, "1", "1", "1", "1"),
        (x, f) -> x.shift(f), "2:1|2|2|2", "2:2|1|2|2", "2:2|2|1|2", "2:2|2|2|1"));
    Document.says("Returns how many sets were replaced by all compressions together.", () -> {
      for (int n : Bench.GROUNDS) {
        for (int f = 0; f < 4; f++) {
          Check.due("shift(" + f + ") of what is shifted, n = " + n, 0, Bench.full(n).shift(f));
        }
      }
      Check.due("one set, once", 1, Bench.with(10, "9").shift(0));
      Check.due("one set, five times", 5, Bench.with(10, "56789").shift(0));
      // From 1 to 0 and, since 0 is there then, from 2 to 1.
      Check.due("two sets", 2, Bench.with(3, "1,2").shift(0));
      Check.due("with n = 2", 1, Bench.with(2, "1").shift(0));
    });
    Document.says("Throws `IndexOutOfBoundsException` if there is no such family", () -> Bench.refusedFamilies((x, f) -> x.shift(f)));
  }

  private static void trace() {
    Document.section("Promise 13: trace");
    Document.says("Lays the trace of a family on a set at a place.", () -> {
      SetFamilies x = Bench.with(3, "01,12,2", "0", "0", "0");
      x.trace(2, 0, 3);
      Check.same("the trace on 01", "3:3 4 6|1|0 2 3|1", Bench.families(x));
    });
    Document.says("Undoable.", () -> {
      Bench.undoable(() -> Bench.with(3, "01,2", "0"), "trace(1, 0, 1)", true, x -> x.trace(1, 0, 1));
      Bench.undoable(() -> Bench.with(3, "01,2", "0"), "a trace on all elements", false, x -> x.trace(0, 0, 7));
      Bench.undoable(() -> Bench.with(10, "9,89"), "a trace with n = 10", true, x -> x.trace(0, 0, 256));
      Bench.undoable(SetFamilies::new, "a trace of no sets", false, x -> x.trace(3, 0, 0));
    });
    Document.says("- `place`: 0 to 3", () -> Bench.eachPlace(() -> Bench.with(2, "01", "1", "01", "-"),
        (x, place) -> x.trace(place, 0, 2), "2:2|2|3|0", "2:3|2|3|0", "2:3|2|2|0", "2:3|2|3|2"));
    Document.says("- `family`: 0 to 3", () -> Bench.eachFamily(() -> Bench.with(4, "", "0", "0,1,2,3", "0,1,01"),
        (x, f) -> x.trace(0, f, 7), 0, 1, 4, 3));
    Document.says("- `set`: code of a set", () -> Bench.endsOfSets((x, s) -> x.trace(0, 3, s)));
    Document.says("Returns how many sets the trace has.", () -> {
      for (int n : Bench.GROUNDS) {
        int all = Bench.everything(n);
        Check.due("all sets on the empty set", 1, Bench.full(n).trace(3, 0, 0));
        Check.due("all sets on 0", 2, Bench.full(n).trace(3, 0, 1));
        Check.due("all sets on all but 0", 1 << (n - 1), Bench.full(n).trace(3, 0, all - 1));
        Check.due("all sets on all elements", 1 << n, Bench.full(n).trace(3, 0, all));
        Check.due("the empty set on all elements", 1, Bench.full(n).trace(3, 1, all));
        Check.due("no sets on all elements", 0, Bench.full(n).trace(0, 3, all));
        Check.due("no sets on the empty set", 0, Bench.full(n).trace(0, 3, 0));
      }
      Check.due("sets that fall together", 1, Bench.with(4, "0,01,02,03").trace(1, 0, 1));
    });
    Document.says("Throws `IndexOutOfBoundsException` if place or family is out of range", () -> {
      Bench.refusedFamilies((x, place) -> x.trace(place, 0, 1));
      Bench.refusedFamilies((x, f) -> x.trace(0, f, 1));
    });
    Document.says("Throws `IllegalArgumentException` if set is not the code of a set",
        () -> Bench.refusedSets((x, s) -> x.trace(0, 3, s)));
  }
}
