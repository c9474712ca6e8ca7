/** Each promise of the document: ordinary inputs, the edges that it names, and wrong inputs. */
public final class PromisesTest {
  private static final Class<IndexOutOfBoundsException> INDEX = Bench.INDEX;
  private static final Class<IllegalArgumentException> ARGUMENT = Bench.ARGUMENT;
  private static final Class<IllegalStateException> STATE = Bench.STATE;
  private static final int[] NO_FAMILIES = Bench.NO_FAMILIES;

  public static void main(String[] args) {
    newObject();
    setGround();
    add();
    remove();
    has();
    size();
    get();
    degree();
    combine();
    deriveShadows();
    deriveClosures();
    deriveBlockers();
    compress();
    shift();
    trace();
    segment();
    rank();
    unrank();
    cascade();
    shadowBound();
    excess();
    properties();
    weight();
    dimension();
    shattered();
    crossing();
    sunflower();
    pairs();
    type();
    clearText();
    read();
    undo();
    undoableMethods();
    digest();
    throwingChangesNothing();
    Check.end();
  }

  // ---- promises

  private static void newObject() {
    Check.about("promise 1");
    SetFamilies x = new SetFamilies();
    for (int f = 0; f < 4; f++) {
      Check.due("size of a family", 0, x.size(f, SetFamilies.NONE));
    }
    Check.due("has(0, 63) of six elements", 0, Bench.bit(x.has(0, 63)));
    Check.throwsA(ARGUMENT, "has(0, 64)", () -> Bench.bit(x.has(0, 64)));
    Check.due("clearText()", 0, x.clearText());
    Check.throwsA(STATE, "undo()", () -> x.undo());
    Check.due("setGround(6)", 6, x.setGround(6));
  }

  private static void setGround() {
    Check.about("promise 2");
    SetFamilies x = new SetFamilies();
    x.add(0, 63);
    x.add(3, 0);
    Check.due("setGround(10)", 6, x.setGround(10));
    Check.due("size(0)", 0, x.size(0, SetFamilies.NONE));
    Check.due("size(3)", 0, x.size(3, SetFamilies.NONE));
    Check.yes("add(0, 1023)", x.add(0, 1023));
    Check.due("setGround(10) again", 10, x.setGround(10));
    Check.due("size(0) after the same n", 0, x.size(0, SetFamilies.NONE));
    Check.due("setGround(1)", 10, x.setGround(1));
    Check.yes("add(0, 1)", x.add(0, 1));
    Check.throwsA(ARGUMENT, "add(0, 2)", () -> Bench.bit(x.add(0, 2)));
    for (int n : new int[] {0, 11, -1, Integer.MIN_VALUE, Integer.MAX_VALUE}) {
      Check.throwsA(ARGUMENT, "setGround(" + n + ")", () -> x.setGround(n));
    }
    Bench.holds("family 0 after wrong calls", x, 0, "1");
    x.undo();
    x.undo();
    Check.due("setGround(3) after two undos", 10, x.setGround(3));
    Bench.type(x, "012");
    x.setGround(10);
    Check.due("the text stays", 3, x.clearText());
  }

  private static void add() {
    Check.about("promise 3");
    SetFamilies x = new SetFamilies();
    Check.yes("add(0, 5)", x.add(0, 5));
    Check.no("add(0, 5) again", x.add(0, 5));
    Check.yes("add(1, 5)", x.add(1, 5));
    Check.yes("add(3, 0)", x.add(3, 0));
    Check.yes("add(3, 63)", x.add(3, 63));
    Bench.holds("family 0", x, 0, "5");
    Bench.holds("family 3", x, 3, "0 63");
    for (int f : NO_FAMILIES) {
      Check.throwsA(INDEX, "add(" + f + ", 0)", () -> Bench.bit(x.add(f, 0)));
      Check.throwsA(INDEX, "add(" + f + ", -1), both wrong", () -> Bench.bit(x.add(f, -1)));
    }
    for (int s : new int[] {-1, 64, Integer.MIN_VALUE, Integer.MAX_VALUE}) {
      Check.throwsA(ARGUMENT, "add(0, " + s + ")", () -> Bench.bit(x.add(0, s)));
    }
    x.setGround(10);
    // A third of all sets: with all of them the object would be used for more than 512 calls.
    for (int s = 1023; s >= 0; s -= 3) {
      Check.yes("add(2, " + s + ")", x.add(2, s));
    }
    Check.due("size(2)", 342, x.size(2, SetFamilies.NONE));
  }

  private static void remove() {
    Check.about("promise 4");
    SetFamilies x = Bench.with(6, "02,-,012345");
    Check.yes("remove(0, 5)", x.remove(0, 5));
    Check.no("remove(0, 5) again", x.remove(0, 5));
    Check.no("remove(1, 0)", x.remove(1, 0));
    Check.yes("remove(0, 0)", x.remove(0, 0));
    Bench.holds("family 0", x, 0, "63");
    Check.yes("remove(0, 63)", x.remove(0, 63));
    Check.due("size(0)", 0, x.size(0, SetFamilies.NONE));
    for (int f : NO_FAMILIES) {
      Check.throwsA(INDEX, "remove(" + f + ", 64)", () -> Bench.bit(x.remove(f, 64)));
    }
    for (int s : new int[] {-1, 64}) {
      Check.throwsA(ARGUMENT, "remove(0, " + s + ")", () -> Bench.bit(x.remove(0, s)));
    }
  }

  private static void has() {
    Check.about("promise 5");
    SetFamilies x = Bench.with(10, "9,0123456789,-,06");
    Check.yes("has(0, 512)", x.has(0, 512));
    Check.yes("has(0, 1023)", x.has(0, 1023));
    Check.yes("has(0, 0)", x.has(0, 0));
    Check.yes("has(0, 65)", x.has(0, 65));
    Check.no("has(0, 1)", x.has(0, 1));
    Check.no("has(0, 64)", x.has(0, 64));
    Check.no("has(1, 0)", x.has(1, 0));
    for (int f : NO_FAMILIES) {
      Check.throwsA(INDEX, "has(" + f + ", -1)", () -> Bench.bit(x.has(f, -1)));
    }
    Check.throwsA(ARGUMENT, "has(0, 1024)", () -> Bench.bit(x.has(0, 1024)));
    Check.throwsA(ARGUMENT, "has(0, -1)", () -> Bench.bit(x.has(0, -1)));
  }

  private static void size() {
    Check.about("promise 6");
    SetFamilies x = Bench.with(7, "-,0,6,06,16,0123456");
    int[] levels = {1, 2, 2, 0, 0, 0, 0, 1};
    for (int k = 0; k <= 7; k++) {
      Check.due("size(0, " + k + ")", levels[k], x.size(0, k));
    }
    Check.due("size(0, NONE)", 6, x.size(0, SetFamilies.NONE));
    for (int level : new int[] {-2, 8, Integer.MAX_VALUE, Integer.MIN_VALUE}) {
      Check.throwsA(ARGUMENT, "size(0, " + level + ")", () -> x.size(0, level));
    }
    for (int f : NO_FAMILIES) {
      Check.throwsA(INDEX, "size(" + f + ", -2)", () -> x.size(f, -2));
    }
    x.setGround(10);
    x.add(1, 0);
    x.derive(1, SetFamilies.UP_SET, 1);
    int[] binomials = {1, 10, 45, 120, 210, 252, 210, 120, 45, 10, 1};
    for (int k = 0; k <= 10; k++) {
      Check.due("size of level " + k + " of all sets", binomials[k], x.size(1, k));
    }
  }

  private static void get() {
    Check.about("promise 7");
    SetFamilies x = Bench.with(10, "9,-,06,0,5,012345,0123456789");
    int[] sets = {0, 1, 32, 63, 65, 512, 1023};
    for (int i = 0; i < sets.length; i++) {
      Check.due("get(0, " + i + ")", sets[i], x.get(0, i));
    }
    Check.due("get(0, 7)", SetFamilies.NONE, x.get(0, 7));
    Check.due("get(0, greatest int)", SetFamilies.NONE, x.get(0, Integer.MAX_VALUE));
    Check.due("get(1, 0)", SetFamilies.NONE, x.get(1, 0));
    Check.throwsA(ARGUMENT, "get(0, -1)", () -> x.get(0, -1));
    Check.throwsA(ARGUMENT, "get(0, least int)", () -> x.get(0, Integer.MIN_VALUE));
    for (int f : NO_FAMILIES) {
      Check.throwsA(INDEX, "get(" + f + ", -1)", () -> x.get(f, -1));
    }
  }

  private static void degree() {
    Check.about("promise 8");
    SetFamilies x = Bench.with(8, "-,07,67,0567,01");
    int[] degrees = {3, 1, 0, 0, 0, 1, 2, 3};
    for (int e = 0; e < 8; e++) {
      Check.due("degree(0, " + e + ")", degrees[e], x.degree(0, e));
    }
    Check.due("degree(1, 0)", 0, x.degree(1, 0));
    for (int e : new int[] {-1, 8, Integer.MIN_VALUE, Integer.MAX_VALUE}) {
      Check.throwsA(ARGUMENT, "degree(0, " + e + ")", () -> x.degree(0, e));
    }
    for (int f : NO_FAMILIES) {
      Check.throwsA(INDEX, "degree(" + f + ", -1)", () -> x.degree(f, -1));
    }
  }

  private static void combine() {
    Check.about("promise 9");
    SetFamilies x = Bench.with(8, "-,0,7");
    Bench.read(x, 1, "0,07");
    Check.due("union", 4, x.combine(2, SetFamilies.UNION, 0, 1));
    Bench.holds("union", x, 2, "0 1 128 129");
    Check.due("intersection", 1, x.combine(2, SetFamilies.INTERSECTION, 0, 1));
    Bench.holds("intersection", x, 2, "1");
    Check.due("difference", 2, x.combine(2, SetFamilies.DIFFERENCE, 0, 1));
    Bench.holds("difference", x, 2, "0 128");
    Check.due("difference the other way", 1, x.combine(2, SetFamilies.DIFFERENCE, 1, 0));
    Bench.holds("difference the other way", x, 2, "129");
    Check.due("symmetric", 3, x.combine(2, SetFamilies.SYMMETRIC, 0, 1));
    Bench.holds("symmetric", x, 2, "0 128 129");
    Check.due("at the place of the second", 2, x.combine(1, SetFamilies.DIFFERENCE, 0, 1));
    Bench.holds("at the place of the second", x, 1, "0 128");
    Check.due("at the place of the first", 1, x.combine(0, SetFamilies.DIFFERENCE, 0, 1));
    Bench.holds("at the place of the first", x, 0, "1");
    Check.due("with itself", 0, x.combine(0, SetFamilies.SYMMETRIC, 0, 0));
    SetFamilies y = Bench.with(10, "9,0123456789,-");
    Bench.read(y, 1, "9,89,0");
    int[] sizes = {5, 1, 2, 4};
    String[] want = {"0 1 512 768 1023", "512", "0 1023", "0 1 768 1023"};
    for (int operation = SetFamilies.UNION; operation <= SetFamilies.SYMMETRIC; operation++) {
      Check.due("operation " + operation + " with ten elements", sizes[operation], y.combine(2, operation, 0, 1));
      Bench.holds("operation " + operation + " with ten elements", y, 2, want[operation]);
    }
    for (int f : NO_FAMILIES) {
      Check.throwsA(INDEX, "place " + f, () -> x.combine(f, 0, 0, 0));
      Check.throwsA(INDEX, "first " + f, () -> x.combine(0, 0, f, 0));
      Check.throwsA(INDEX, "second " + f + ", operation wrong too", () -> x.combine(0, 4, 0, f));
    }
    for (int operation : new int[] {-1, 4, Integer.MIN_VALUE, Integer.MAX_VALUE}) {
      Check.throwsA(ARGUMENT, "operation " + operation, () -> x.combine(0, operation, 0, 0));
    }
  }

  private static void deriveShadows() {
    Check.about("promise 10, shadows");
    SetFamilies x = Bench.with(7, "-,0,16");
    Check.due("shadow", 3, x.derive(1, SetFamilies.SHADOW, 0));
    Bench.holds("shadow", x, 1, "0 2 64");
    Check.due("upper shadow", 18, x.derive(1, SetFamilies.UPPER_SHADOW, 0));
    Bench.holds("upper shadow", x, 1, "1 2 3 4 5 8 9 16 17 32 33 64 65 67 70 74 82 98");
    Check.due("shadow of the empty set", 0, Bench.with(4, "-").derive(0, SetFamilies.SHADOW, 0));
    Check.due("upper shadow of all elements", 0, Bench.with(4, "0123").derive(0, SetFamilies.UPPER_SHADOW, 0));
    Check.due("shadow of nothing", 0, x.derive(2, SetFamilies.SHADOW, 3));
    x.derive(0, SetFamilies.SHADOW, 0);
    Bench.holds("shadow at its own place", x, 0, "0 2 64");
    for (int f : NO_FAMILIES) {
      Check.throwsA(INDEX, "place " + f, () -> x.derive(f, 0, 0));
      Check.throwsA(INDEX, "family " + f + ", operation wrong too", () -> x.derive(0, 10, f));
    }
    for (int operation : new int[] {-1, 10, Integer.MIN_VALUE, Integer.MAX_VALUE}) {
      Check.throwsA(ARGUMENT, "operation " + operation, () -> x.derive(0, operation, 0));
    }
  }

  private static void deriveClosures() {
    Check.about("promise 10, closures");
    SetFamilies x = Bench.with(4, "02,3,023");
    Check.due("down set", 8, x.derive(1, SetFamilies.DOWN_SET, 0));
    Bench.holds("down set", x, 1, "0 1 4 5 8 9 12 13");
    Check.due("up set", 10, x.derive(1, SetFamilies.UP_SET, 0));
    Bench.holds("up set", x, 1, "5 7 8 9 10 11 12 13 14 15");
    Check.due("minimal", 2, x.derive(1, SetFamilies.MINIMAL, 0));
    Bench.holds("minimal", x, 1, "5 8");
    Check.due("maximal", 1, x.derive(1, SetFamilies.MAXIMAL, 0));
    Bench.holds("maximal", x, 1, "13");
    Check.due("complements", 3, x.derive(1, SetFamilies.COMPLEMENTS, 0));
    Bench.holds("complements", x, 1, "2 7 10");
    Check.due("down set after the complements", 8, x.derive(2, SetFamilies.DOWN_SET, 0));
    Bench.holds("down set after the complements", x, 2, "0 1 4 5 8 9 12 13");
    Bench.read(x, 0, "0,012,3,0123");
    x.derive(1, SetFamilies.MINIMAL, 0);
    Bench.holds("minimal sets of a chain with a gap", x, 1, "1 8");
    Bench.read(x, 0, "-,0,012,3");
    x.derive(1, SetFamilies.MAXIMAL, 0);
    Bench.holds("maximal sets of a chain with a gap", x, 1, "7 8");
    SetFamilies y = Bench.with(8, "07,17,6");
    Check.due("unions", 7, y.derive(1, SetFamilies.UNIONS, 0));
    Bench.holds("unions", y, 1, "64 129 130 131 193 194 195");
    Check.due("intersections", 5, y.derive(1, SetFamilies.INTERSECTIONS, 0));
    Bench.holds("intersections", y, 1, "0 64 128 129 130");
    for (int operation = SetFamilies.SHADOW; operation <= SetFamilies.INTERSECTIONS; operation++) {
      int want = operation == SetFamilies.BLOCKER ? 1 : 0;
      Check.due("derive(2, " + operation + ") of the empty family", want, y.derive(2, operation, 3));
    }
    SetFamilies z = Bench.with(3, "-");
    Check.due("unions of the empty set alone", 1, z.derive(1, SetFamilies.UNIONS, 0));
    Check.due("intersections of the empty set alone", 1, z.derive(1, SetFamilies.INTERSECTIONS, 0));
    Bench.read(z, 0, "01,12,02");
    Check.due("intersections of three sets too", 7, z.derive(0, SetFamilies.INTERSECTIONS, 0));
    Bench.holds("intersections of three sets too", z, 0, "0 1 2 3 4 5 6");
  }

  private static void deriveBlockers() {
    Check.about("promise 10, blockers");
    SetFamilies x = Bench.with(9, "01,12,02");
    Check.due("blocker of a triangle", 3, x.derive(1, SetFamilies.BLOCKER, 0));
    Bench.holds("blocker of a triangle", x, 1, "3 5 6");
    Bench.read(x, 0, "018,8,67");
    Check.due("blocker", 2, x.derive(0, SetFamilies.BLOCKER, 0));
    Bench.holds("blocker", x, 0, "320 384");
    Check.due("blocker of nothing", 1, x.derive(2, SetFamilies.BLOCKER, 3));
    Bench.holds("blocker of nothing", x, 2, "0");
    Check.due("blocker of the empty set", 0, x.derive(2, SetFamilies.BLOCKER, 2));
    SetFamilies y = Bench.with(1, "0");
    Check.due("blocker of one element", 1, y.derive(0, SetFamilies.BLOCKER, 0));
    Bench.holds("blocker of one element", y, 0, "1");
  }

  private static void compress() {
    Check.about("promise 11");
    SetFamilies x = Bench.with(8, "7,17,67,6,06,-");
    // 7 becomes 0, 17 becomes 01, 67 becomes 06, which is there already.
    Check.due("compress(0, 7, 0)", 2, x.compress(0, 7, 0));
    Bench.holds("after it", x, 0, "0 1 3 64 65 192");
    Check.due("compress(0, 7, 0) again", 0, x.compress(0, 7, 0));
    Check.due("compress upwards", 2, x.compress(0, 0, 7));
    Bench.holds("after it", x, 0, "0 64 65 128 130 192");
    Check.due("compress of nothing", 0, x.compress(1, 1, 0));
    Bench.read(x, 1, "0,1");
    Check.due("both are there", 0, x.compress(1, 1, 0));
    for (int e : new int[] {-1, 8, Integer.MIN_VALUE, Integer.MAX_VALUE}) {
      Check.throwsA(ARGUMENT, "j = " + e, () -> x.compress(0, e, 0));
      Check.throwsA(ARGUMENT, "i = " + e, () -> x.compress(0, 0, e));
    }
    Check.throwsA(ARGUMENT, "equal elements", () -> x.compress(0, 3, 3));
    for (int f : NO_FAMILIES) {
      Check.throwsA(INDEX, "compress(" + f + ", 3, 3)", () -> x.compress(f, 3, 3));
    }
  }

  private static void shift() {
    Check.about("promise 12");
    SetFamilies x = Bench.with(7, "6");
    Check.due("shift(0)", 1, x.shift(0));
    Bench.holds("after it", x, 0, "1");
    Check.due("shift(0) again", 0, x.shift(0));
    // From 2 to 0: 24 becomes 04. From 4 to 0: nothing, 04 holds both. From 4 to 1: 04 becomes 01.
    Bench.read(x, 0, "24");
    Check.due("shift of 24", 2, x.shift(0));
    Bench.holds("shift of 24", x, 0, "3");
    Bench.read(x, 0, "-,0123456,56");
    x.shift(0);
    Bench.holds("sizes stay", x, 0, "0 3 127");
    Check.due("shift of nothing", 0, x.shift(3));
    x.setGround(1);
    x.add(0, 1);
    Check.due("shift with one element", 0, x.shift(0));
    for (int f : NO_FAMILIES) {
      Check.throwsA(INDEX, "shift(" + f + ")", () -> x.shift(f));
    }
  }

  private static void trace() {
    Check.about("promise 13");
    SetFamilies x = Bench.with(9, "08,18,038,27");
    Check.due("trace(1, 0, 257)", 3, x.trace(1, 0, 257));
    Bench.holds("trace on 08", x, 1, "0 256 257");
    Check.due("trace on nothing", 1, x.trace(1, 0, 0));
    Bench.holds("trace on nothing", x, 1, "0");
    Check.due("trace on all", 4, x.trace(1, 0, 511));
    Bench.holds("trace on all", x, 1, "132 257 258 265");
    Check.due("trace of nothing", 0, x.trace(1, 3, 511));
    Check.due("trace at its own place", 3, x.trace(0, 0, 136));
    Bench.holds("trace at its own place", x, 0, "0 8 128");
    for (int f : NO_FAMILIES) {
      Check.throwsA(INDEX, "place " + f, () -> x.trace(f, 0, 0));
      Check.throwsA(INDEX, "family " + f + ", set wrong too", () -> x.trace(0, f, 512));
    }
    Check.throwsA(ARGUMENT, "set 512", () -> x.trace(0, 0, 512));
    Check.throwsA(ARGUMENT, "set -1", () -> x.trace(0, 0, -1));
  }

  private static void segment() {
    Check.about("promise 14");
    SetFamilies x = Bench.with(6, "-");
    Check.due("segment(0, 3, 5)", 19, x.segment(0, 3, 5));
    Bench.holds("segment(0, 3, 5)", x, 0, "7 11 13 14 19");
    Check.due("segment(0, 2, 0)", SetFamilies.NONE, x.segment(0, 2, 0));
    Check.due("its size", 0, x.size(0, SetFamilies.NONE));
    Check.due("segment(1, 0, 1)", 0, x.segment(1, 0, 1));
    Check.due("segment(1, 0, 0)", SetFamilies.NONE, x.segment(1, 0, 0));
    Check.due("segment(2, 6, 1)", 63, x.segment(2, 6, 1));
    Check.due("segment(3, 2, 15)", 48, x.segment(3, 2, 15));
    for (int f : NO_FAMILIES) {
      Check.throwsA(INDEX, "place " + f + ", k wrong too", () -> x.segment(f, -1, 0));
    }
    for (int k : new int[] {-1, 7, Integer.MIN_VALUE, Integer.MAX_VALUE}) {
      Check.throwsA(ARGUMENT, "k = " + k, () -> x.segment(0, k, 0));
    }
    for (int m : new int[] {-1, 21, Integer.MIN_VALUE, Integer.MAX_VALUE}) {
      Check.throwsA(ARGUMENT, "m = " + m, () -> x.segment(0, 3, m));
    }
    Check.throwsA(ARGUMENT, "segment(0, 0, 2)", () -> x.segment(0, 0, 2));
    x.setGround(10);
    Check.due("segment(0, 5, 252)", 992, x.segment(0, 5, 252));
    Check.due("its size", 252, x.size(0, 5));
    Check.throwsA(ARGUMENT, "segment(0, 5, 253)", () -> x.segment(0, 5, 253));
  }

  private static void rank() {
    Check.about("promise 15");
    SetFamilies x = Bench.with(1, "");
    Check.due("rank(0)", 0, x.rank(0));
    Check.due("rank(1)", 0, x.rank(1));
    Check.due("rank(512), n does not matter", 9, x.rank(512));
    Check.due("rank(52)", 18, x.rank(52));
    Check.due("rank(992)", 251, x.rank(992));
    Check.due("rank(1023)", 0, x.rank(1023));
    int[] before = new int[11];
    for (int s = 0; s < 1024; s++) {
      Check.due("rank(" + s + ")", before[Integer.bitCount(s)]++, new SetFamilies().rank(s));
    }
    for (int s : new int[] {-1, 1024, Integer.MIN_VALUE, Integer.MAX_VALUE}) {
      Check.throwsA(ARGUMENT, "rank(" + s + ")", () -> x.rank(s));
    }
  }

  private static void unrank() {
    Check.about("promise 16");
    SetFamilies x = Bench.with(1, "");
    int[] next = new int[11];
    for (int s = 0; s < 1024; s++) {
      int k = Integer.bitCount(s);
      Check.due("unrank(" + k + ", " + next[k] + ")", s, new SetFamilies().unrank(k, next[k]++));
    }
    for (int k = 0; k <= 10; k++) {
      Check.due("unrank(" + k + ", " + next[k] + ")", SetFamilies.NONE, x.unrank(k, next[k]));
      Check.due("unrank(" + k + ", greatest int)", SetFamilies.NONE, x.unrank(k, Integer.MAX_VALUE));
    }
    for (int k : new int[] {-1, 11, Integer.MIN_VALUE, Integer.MAX_VALUE}) {
      Check.throwsA(ARGUMENT, "unrank(" + k + ", 0)", () -> x.unrank(k, 0));
    }
    Check.throwsA(ARGUMENT, "unrank(3, -1)", () -> x.unrank(3, -1));
    Check.throwsA(ARGUMENT, "unrank(0, least int)", () -> x.unrank(0, Integer.MIN_VALUE));
  }

  private static void cascadeIs(SetFamilies x, int m, int k, int... numbers) {
    for (int i = 0; i < numbers.length; i++) {
      Check.due("cascade(" + m + ", " + k + ", " + i + ")", numbers[i], x.cascade(m, k, i));
    }
    int end = numbers.length;
    Check.due("cascade(" + m + ", " + k + ", " + end + ")", SetFamilies.NONE, x.cascade(m, k, end));
    Check.due("cascade(" + m + ", " + k + ", greatest int)", SetFamilies.NONE, x.cascade(m, k, Integer.MAX_VALUE));
  }

  private static void cascade() {
    Check.about("promise 17");
    SetFamilies x = new SetFamilies();
    cascadeIs(x, 5, 3, 4, 2);
    cascadeIs(x, 1, 1, 1);
    cascadeIs(x, 1, 10, 10);
    cascadeIs(x, 2, 10, 10, 9);
    cascadeIs(x, 10, 10, 10, 9, 8, 7, 6, 5, 4, 3, 2, 1);
    cascadeIs(x, 11, 10, 11);
    cascadeIs(x, 1000000, 1, 1000000);
    cascadeIs(x, 1000000, 2, 1414, 1009);
    cascadeIs(x, 1000000, 3, 182, 153, 112);
    cascadeIs(x, 998991, 2, 1414);
    cascadeIs(x, 998990, 2, 1413, 1412);
    for (int m : new int[] {0, -1, 1000001, Integer.MIN_VALUE, Integer.MAX_VALUE}) {
      Check.throwsA(ARGUMENT, "m = " + m, () -> x.cascade(m, 3, 0));
    }
    for (int k : new int[] {0, -1, 11, Integer.MIN_VALUE, Integer.MAX_VALUE}) {
      Check.throwsA(ARGUMENT, "k = " + k, () -> x.cascade(5, k, 0));
    }
    Check.throwsA(ARGUMENT, "index -1", () -> x.cascade(5, 3, -1));
  }

  private static void shadowBound() {
    Check.about("promise 18");
    SetFamilies x = new SetFamilies();
    Check.due("shadowBound(5, 3)", 8, x.shadowBound(5, 3));
    Check.due("shadowBound(0, 1)", 0, x.shadowBound(0, 1));
    Check.due("shadowBound(0, 10)", 0, x.shadowBound(0, 10));
    Check.due("shadowBound(7, 1)", 1, x.shadowBound(7, 1));
    Check.due("shadowBound(1, 10)", 10, x.shadowBound(1, 10));
    Check.due("shadowBound(10, 10)", 55, x.shadowBound(10, 10));
    Check.due("shadowBound(1000000, 1)", 1, x.shadowBound(1000000, 1));
    Check.due("shadowBound(1000000, 2)", 1415, x.shadowBound(1000000, 2));
    Check.due("shadowBound(1000000, 3)", 16625, x.shadowBound(1000000, 3));
    for (int m : new int[] {-1, 1000001, Integer.MIN_VALUE, Integer.MAX_VALUE}) {
      Check.throwsA(ARGUMENT, "m = " + m, () -> x.shadowBound(m, 3));
    }
    for (int k : new int[] {0, 11, Integer.MIN_VALUE, Integer.MAX_VALUE}) {
      Check.throwsA(ARGUMENT, "k = " + k, () -> x.shadowBound(0, k));
    }
  }

  private static void excess() {
    Check.about("promise 19");
    SetFamilies x = Bench.with(6, "012,345,0,5,0123,-");
    Check.due("excess(0, 3)", 1, x.excess(0, 3));
    Check.due("excess(0, 1)", 0, x.excess(0, 1));
    Check.due("excess(0, 2), an empty level", 0, x.excess(0, 2));
    Check.due("excess(0, 4)", 0, x.excess(0, 4));
    Check.due("excess(0, 6)", 0, x.excess(0, 6));
    for (int level : new int[] {0, -1, 7, Integer.MIN_VALUE, Integer.MAX_VALUE}) {
      Check.throwsA(ARGUMENT, "level " + level, () -> x.excess(0, level));
    }
    for (int f : NO_FAMILIES) {
      Check.throwsA(INDEX, "excess(" + f + ", 0)", () -> x.excess(f, 0));
    }
    SetFamilies y = Bench.with(10, "01,23,45,67,89");
    // Five pairs at the front have four elements.
    Check.due("excess of five disjoint pairs", 6, y.excess(0, 2));
    for (int k = 1; k <= 10; k++) {
      y.segment(1, k, Math.min(7, y.size(1, k) + 1));
      Check.due("excess of a segment", 0, y.excess(1, k));
    }
  }

  private static void is(int property, String text, boolean want) {
    Check.due("property " + property + " of '" + text + "'", Bench.bit(want), Bench.bit(Bench.with(8, text).is(0, property)));
  }

  private static void properties() {
    Check.about("promise 20");
    for (int property = 0; property <= 5; property++) {
      is(property, "", true);
    }
    is(0, "01,2,67", true);
    is(0, "01,1", false);
    is(0, "7,67", false);
    is(0, "0,012", false);
    is(0, "-,67", false);
    is(0, "-", true);
    is(0, "-,0", false);
    is(1, "01,12,02", true);
    is(1, "07,17,67", true);
    is(1, "01,2", false);
    is(1, "0", true);
    is(1, "-", false);
    is(1, "-,0", false);
    is(2, "0,7,07", true);
    is(2, "0,7", false);
    is(2, "-", true);
    is(2, "0,1,2,01,02,12", false);
    is(3, "0,7", false);
    is(3, "0,7,-", true);
    is(3, "01,12,02,0,1,2", false);
    is(3, "5", true);
    is(4, "0", false);
    is(4, "-", true);
    is(4, "-,7", true);
    is(4, "-,6,7,67", true);
    is(4, "-,7,67", false);
    is(5, "0", true);
    is(5, "7", false);
    is(5, "0,1", true);
    is(5, "02", false);
    is(5, "01,02", true);
    is(5, "-,01234567", true);
    SetFamilies x = new SetFamilies();
    for (int property : new int[] {-1, 6, Integer.MIN_VALUE, Integer.MAX_VALUE}) {
      Check.throwsA(ARGUMENT, "is(0, " + property + ")", () -> Bench.bit(x.is(0, property)));
    }
    for (int f : NO_FAMILIES) {
      Check.throwsA(INDEX, "is(" + f + ", 6)", () -> Bench.bit(x.is(f, 6)));
    }
  }

  private static void weightIs(int n, String text, long numerator, long denominator) {
    SetFamilies x = Bench.with(n, text);
    Check.due("numerator of '" + text + "' with n = " + n, numerator, x.weight(0, false));
    Check.due("denominator of '" + text + "' with n = " + n, denominator, x.weight(0, true));
  }

  private static void weight() {
    Check.about("promise 21");
    weightIs(6, "", 0, 1);
    weightIs(6, "-", 1, 1);
    weightIs(6, "-,0,1,01,2", 47, 30);
    weightIs(4, "01", 1, 6);
    weightIs(4, "01,02,03", 1, 2);
    weightIs(1, "-,0", 2, 1);
    weightIs(7, "0,01,012", 23, 105);
    weightIs(8, "0,01,012,0123", 27, 140);
    weightIs(9, "0,01,012,0123", 10, 63);
    weightIs(10, "0,01,012,0123,01234", 39, 280);
    SetFamilies x = Bench.with(10, "-");
    x.derive(1, SetFamilies.UP_SET, 0);
    Check.due("numerator of all sets", 11, x.weight(1, false));
    Check.due("denominator of all sets", 1, x.weight(1, true));
    for (int f : NO_FAMILIES) {
      Check.throwsA(INDEX, "weight(" + f + ", false)", () -> x.weight(f, false));
      Check.throwsA(INDEX, "weight(" + f + ", true)", () -> x.weight(f, true));
    }
  }

  private static final String[] SHATTERING = {"", "-", "04", "0,1", "01,0", "-,7,8,9,78,79,89,789", "-,3,4,34,1,5,15", "0,1,2,3"};
  private static final int[] DIMENSIONS = {-1, 0, 0, 1, 1, 3, 2, 1};
  private static final int[] SHATTERED = {-1, 0, 0, 1, 2, 896, 24, 1};

  private static void dimension() {
    Check.about("promise 22");
    for (int i = 0; i < SHATTERING.length; i++) {
      Check.due("dimension of '" + SHATTERING[i] + "'", DIMENSIONS[i], Bench.with(10, SHATTERING[i]).dimension(0));
    }
    SetFamilies x = Bench.with(10, "-");
    x.derive(0, SetFamilies.UP_SET, 0);
    Check.due("dimension of all sets", 10, x.dimension(0));
    x.remove(0, 700);
    Check.due("dimension of all sets but one", 9, x.dimension(0));
    for (int f : NO_FAMILIES) {
      Check.throwsA(INDEX, "dimension(" + f + ")", () -> x.dimension(f));
    }
  }

  private static void shattered() {
    Check.about("promise 23");
    for (int i = 0; i < SHATTERING.length; i++) {
      Check.due("shattered of '" + SHATTERING[i] + "'", SHATTERED[i], Bench.with(10, SHATTERING[i]).shattered(0));
    }
    SetFamilies x = Bench.with(10, "-");
    x.derive(0, SetFamilies.UP_SET, 0);
    Check.due("shattered of all sets", 1023, x.shattered(0));
    x.remove(0, 700);
    Check.due("shattered of all sets but one", 511, x.shattered(0));
    for (int f : NO_FAMILIES) {
      Check.throwsA(INDEX, "shattered(" + f + ")", () -> x.shattered(f));
    }
  }

  private static void crossing() {
    Check.about("promise 24");
    SetFamilies x = Bench.with(10, "01,2");
    Bench.read(x, 1, "0,12");
    Check.due("crossing(0, 1)", 1024 * 4 + 1, x.crossing(0, 1));
    Check.due("crossing(1, 0)", 1024 * 1 + 4, x.crossing(1, 0));
    Check.due("crossing(0, 0)", 1024 * 3 + 4, x.crossing(0, 0));
    Check.due("crossing with nothing", SetFamilies.NONE, x.crossing(0, 3));
    Check.due("crossing of nothing", SetFamilies.NONE, x.crossing(3, 0));
    Check.due("crossing of nothing with itself", SetFamilies.NONE, x.crossing(3, 3));
    Bench.read(x, 2, "02,12,012");
    Check.due("cross-intersecting", SetFamilies.NONE, x.crossing(0, 2));
    Bench.read(x, 2, "-");
    Check.due("crossing with the empty set", 1024 * 3, x.crossing(0, 2));
    Check.due("crossing of the empty set", 3, x.crossing(2, 0));
    Check.due("crossing of the empty set with itself", 0, x.crossing(2, 2));
    Bench.read(x, 2, "0123456789,9,8");
    Check.due("the last elements", 1024 * 256 + 512, x.crossing(2, 2));
    for (int f : NO_FAMILIES) {
      Check.throwsA(INDEX, "crossing(" + f + ", 0)", () -> x.crossing(f, 0));
      Check.throwsA(INDEX, "crossing(0, " + f + ")", () -> x.crossing(0, f));
    }
  }

  private static void sunflowerIs(String text, int core) {
    Check.due("sunflower of '" + text + "'", core, Bench.with(10, text).sunflower(0));
  }

  private static void sunflower() {
    Check.about("promise 25");
    sunflowerIs("", SetFamilies.NONE);
    sunflowerIs("-,0", SetFamilies.NONE);
    sunflowerIs("01,12", SetFamilies.NONE);
    sunflowerIs("0,1,2", 0);
    sunflowerIs("01,02,03", 1);
    sunflowerIs("-,0,1", 0);
    sunflowerIs("-,0,01", SetFamilies.NONE);
    sunflowerIs("0,01,02", 1);
    sunflowerIs("01,12,02", SetFamilies.NONE);
    sunflowerIs("45,46,47,01,02,03", 1);
    sunflowerIs("45,46,47,01,02", 16);
    sunflowerIs("0789,1789,789", 896);
    sunflowerIs("0123456789,012345678,01234567", SetFamilies.NONE);
    sunflowerIs("012345678,012345679,01234567", 255);
    sunflowerIs("23456789,123456789,0123456789", SetFamilies.NONE);
    sunflowerIs("23456789,123456789,023456789", 1020);
    SetFamilies x = new SetFamilies();
    for (int f : NO_FAMILIES) {
      Check.throwsA(INDEX, "sunflower(" + f + ")", () -> x.sunflower(f));
    }
  }

  private static void pairs() {
    Check.about("promise 26");
    SetFamilies x = Bench.with(8, "06,16,01,7,-");
    int[] counts = {7, 3, 0, 0, 0, 0, 0, 0, 0};
    for (int c = 0; c <= 8; c++) {
      Check.due("pairs(0, " + c + ")", counts[c], x.pairs(0, c));
      Check.due("pairs(1, " + c + ")", 0, x.pairs(1, c));
    }
    for (int c : new int[] {-1, 9, Integer.MIN_VALUE, Integer.MAX_VALUE}) {
      Check.throwsA(ARGUMENT, "pairs(0, " + c + ")", () -> x.pairs(0, c));
    }
    for (int f : NO_FAMILIES) {
      Check.throwsA(INDEX, "pairs(" + f + ", -1)", () -> x.pairs(f, -1));
    }
    SetFamilies y = Bench.with(10, "-");
    y.derive(0, SetFamilies.UP_SET, 0);
    // (10 over c) ways for what is common and three for each other element, without equal sets.
    int[] all = {29524, 98410, 147600, 131160, 76440, 30492, 8400, 1560, 180, 10, 0};
    for (int c = 0; c <= 10; c++) {
      Check.due("pairs of all sets with " + c, all[c], y.pairs(0, c));
    }
  }

  private static void type() {
    Check.about("promise 27");
    SetFamilies x = new SetFamilies();
    for (int i = 1; i <= 120; i++) {
      Check.due("type, byte " + i, i, x.type(i == 1 ? 0 : i == 2 ? 127 : '-'));
    }
    Check.throwsA(STATE, "byte 121", () -> x.type('0'));
    Check.throwsA(ARGUMENT, "byte 121 that is wrong too", () -> x.type(128));
    Check.due("clearText()", 120, x.clearText());
    for (int value : new int[] {-1, 128, Integer.MIN_VALUE, Integer.MAX_VALUE}) {
      Check.throwsA(ARGUMENT, "type(" + value + ")", () -> x.type(value));
    }
    Check.due("type('0')", 1, x.type('0'));
    Check.due("read(0)", 1, x.read(0));
  }

  private static void clearText() {
    Check.about("promise 28");
    SetFamilies x = new SetFamilies();
    Check.due("clearText() of nothing", 0, x.clearText());
    Bench.type(x, "01,");
    Check.due("clearText()", 3, x.clearText());
    Check.due("clearText() again", 0, x.clearText());
    Check.throwsA(STATE, "it is not undoable", () -> x.undo());
    Check.due("read(0)", 0, x.read(0));
  }

  private static void readIs(int n, String text, int want) {
    SetFamilies x = new SetFamilies();
    x.setGround(n);
    Check.due("read of '" + text + "' with n = " + n, want, Bench.read(x, 0, text));
  }

  private static void read() {
    Check.about("promise 29");
    readIs(6, "", 0);
    readIs(6, "-", 1);
    readIs(6, "012345", 1);
    readIs(6, "0,1,0,01,-,-", 4);
    readIs(6, ",", -10);
    readIs(6, "0,", -12);
    readIs(6, "0,,", -12);
    readIs(6, "00", -11);
    readIs(6, "10", -11);
    readIs(6, "06", -11);
    readIs(6, "6", -10);
    readIs(6, "0-", -11);
    readIs(6, "-0", -11);
    readIs(6, "--", -11);
    readIs(6, "-,", -12);
    readIs(6, "-,-", 1);
    readIs(6, "1,0", 2);
    readIs(6, "0, 1", -12);
    readIs(6, "x", -10);
    readIs(6, "0:", -11);
    readIs(6, "0/", -11);
    readIs(6, "01\u0000", -12);
    readIs(10, "0123456789,9", 2);
    readIs(10, "9:", -11);
    readIs(1, "0", 1);
    readIs(1, "1", -10);
    readIs(6, "0,".repeat(60), -130);
    readIs(6, "0,".repeat(59) + "01", 2);
    SetFamilies x = Bench.with(6, "02,-");
    Bench.holds("a family that was read", x, 0, "0 5");
    Check.due("the text is still there", 2, x.read(3));
    x.type(',');
    Check.due("a text with a fault", -15, x.read(0));
    Bench.holds("nothing changes", x, 0, "0 5");
    x.clearText();
    Check.due("the empty text", 0, x.read(0));
    Bench.holds("it replaces the family", x, 0, "");
    for (int f : NO_FAMILIES) {
      Check.throwsA(INDEX, "read(" + f + ")", () -> x.read(f));
    }
    x.type('x');
    Check.throwsA(INDEX, "read(4) of a text with a fault", () -> x.read(4));
  }

  private static void undo() {
    Check.about("promise 30");
    SetFamilies x = new SetFamilies();
    Check.throwsA(STATE, "undo() at first", () -> x.undo());
    for (int s = 0; s < 6; s++) {
      x.add(0, s);
    }
    Bench.type(x, "-");
    for (int left = 3; left >= 0; left--) {
      Check.due("undo()", left, x.undo());
      Check.due("size after it", left + 2, x.size(0, SetFamilies.NONE));
    }
    Check.throwsA(STATE, "the fifth undo()", () -> x.undo());
    Bench.holds("what is left", x, 0, "0 1");
    Check.due("the text is not restored", 1, x.clearText());
    x.setGround(3);
    x.add(1, 7);
    x.setGround(10);
    x.add(2, 1023);
    Check.due("undo()", 3, x.undo());
    Check.due("undo() of setGround(10)", 2, x.undo());
    Bench.holds("family 1 is back", x, 1, "7");
    Check.throwsA(ARGUMENT, "n is 3 again", () -> Bench.bit(x.has(2, 8)));
    Check.due("undo()", 1, x.undo());
    Check.due("undo() of setGround(3)", 0, x.undo());
    Bench.holds("family 0 is back", x, 0, "0 1");
    Check.no("n is 6 again", x.has(2, 63));
  }

  private static void undoableMethods() {
    Check.about("what is undoable");
    Check.Call[] calls = new Check.Call[11];
    SetFamilies[] now = new SetFamilies[1];
    calls[0] = () -> now[0].setGround(6);
    calls[1] = () -> Bench.bit(now[0].add(0, 5));
    calls[2] = () -> Bench.bit(now[0].remove(0, 1));
    calls[3] = () -> now[0].combine(0, 0, 0, 0);
    calls[4] = () -> now[0].derive(0, SetFamilies.DOWN_SET, 0);
    calls[5] = () -> now[0].compress(0, 1, 0);
    calls[6] = () -> now[0].shift(0);
    calls[7] = () -> now[0].trace(0, 0, 63);
    calls[8] = () -> now[0].segment(0, 2, 3);
    calls[9] = () -> now[0].read(0);
    calls[10] = () -> now[0].derive(1, SetFamilies.SHADOW, 0);
    for (int i = 0; i < calls.length; i++) {
      now[0] = new SetFamilies();
      SetFamilies x = now[0];
      x.add(0, 5);
      Bench.type(x, "23,4");
      calls[i].answer();
      Check.due("states after call " + i + ", one undone", 1, x.undo());
      Bench.holds("family 0 after call " + i, x, 0, "5");
      Bench.holds("family 1 after call " + i, x, 1, "");
      Check.due("the first state", 0, x.undo());
      Bench.holds("family 0 at first", x, 0, "");
    }
    SetFamilies x = Bench.with(6, "01,23");
    x.undo();
    x.undo();
    x.type(',');
    Check.due("read with a fault", -16, x.read(0));
    long answers = x.clearText() + x.size(0, 1) + x.get(0, 0) + x.degree(0, 0) + x.rank(5) + x.unrank(2, 2)
        + x.cascade(5, 3, 0) + x.shadowBound(5, 3) + x.excess(0, 1) + Bench.bit(x.is(0, 0)) + x.weight(0, true) + x.dimension(0)
        + x.shattered(0) + x.crossing(0, 0) + x.sunflower(0) + x.pairs(0, 0) + x.digest() + Bench.bit(x.has(0, 0));
    Check.throwsA(STATE, "undo() when only such calls were made (" + answers + ")", () -> x.undo());
  }

  /** Several objects, since the hash from the other answers takes more calls than one may be used for. */
  private static void digest() {
    Check.about("promise 31");
    SetFamilies x = new SetFamilies();
    Check.due("digest() at first", Bench.hash(x, 0, 0, 6), x.digest());
    Bench.type(x, "01,12,345");
    Check.due("digest() with a text", Bench.hash(x, 0, 9, 6), x.digest());
    SetFamilies y = Bench.with(6, "", "", "01,12,345");
    y.derive(1, SetFamilies.BLOCKER, 2);
    y.derive(3, SetFamilies.UPPER_SHADOW, 2);
    y.add(0, 0);
    y.add(0, 17);
    y.clearText();
    Check.due("digest() with four families", Bench.hash(y, 4, 0, 6), y.digest());
    y.undo();
    Check.due("digest() after undo", Bench.hash(y, 3, 0, 6), y.digest());
    SetFamilies z = Bench.full(10);
    z.setGround(1);
    z.add(3, 1);
    Check.due("digest() with one element", Bench.hash(z, 4, 0, 1), z.digest());
    digestWithTenElements();
  }

  private static void digestWithTenElements() {
    SetFamilies x = Bench.with(10);
    NaiveFamilies model = new NaiveFamilies();
    model.setGround(10);
    x.segment(0, 5, 200);
    model.segment(0, 5, 200);
    x.derive(1, SetFamilies.SHADOW, 0);
    model.derive(1, SetFamilies.SHADOW, 0);
    x.add(2, 1023);
    model.add(2, 1023);
    x.derive(2, SetFamilies.DOWN_SET, 2);
    model.derive(2, SetFamilies.DOWN_SET, 2);
    Check.due("digest() with ten elements", model.digest(), x.digest());
  }

  private static void throwingChangesNothing() {
    Check.about("a call that throws changes nothing");
    SetFamilies x = Bench.with(6, "01,2,345");
    for (int i = 0; i < 112; i++) {
      x.type(i % 2 == 0 ? ',' : '0');
    }
    long before = x.digest();
    Check.Call[] calls = {
      () -> x.setGround(0), () -> Bench.bit(x.add(0, 64)), () -> Bench.bit(x.add(4, 0)), () -> Bench.bit(x.remove(0, -1)),
      () -> Bench.bit(x.remove(-1, 3)), () -> Bench.bit(x.has(0, 64)), () -> x.size(0, 7), () -> x.get(0, -1), () -> x.degree(0, 6),
      () -> x.combine(0, 4, 1, 1), () -> x.combine(0, 0, 1, 4), () -> x.derive(0, 10, 0), () -> x.derive(0, 0, 4),
      () -> x.compress(0, 1, 1), () -> x.compress(0, 6, 1), () -> x.shift(4), () -> x.trace(0, 0, 64),
      () -> x.segment(0, 7, 0), () -> x.segment(0, 3, 21), () -> x.rank(1024), () -> x.unrank(11, 0),
      () -> x.cascade(0, 1, 0), () -> x.shadowBound(-1, 1), () -> x.excess(0, 0), () -> Bench.bit(x.is(0, 6)),
      () -> x.weight(4, true), () -> x.dimension(4), () -> x.shattered(4), () -> x.crossing(0, 4), () -> x.sunflower(4),
      () -> x.pairs(0, 7), () -> x.type(128), () -> x.type('0'), () -> x.read(4),
    };
    for (int i = 0; i < calls.length; i++) {
      Check.yes("call " + i + " throws", Check.outcome(calls[i]).startsWith("throws."));
      Check.due("digest() after wrong call " + i, before, x.digest());
    }
    int length = x.clearText();
    while (length > 0) {
      length--;
      x.type('0');
    }
    Check.yes("the text is as long as before", x.digest() == before);
  }
}
