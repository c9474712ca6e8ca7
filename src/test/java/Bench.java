/** Workbenches for the tests, and all that can be told of one from outside. */
final class Bench {
  interface Call {
    long on(SetFamilies x);
  }

  interface CallWith {
    long on(SetFamilies x, int value);
  }

  interface Maker {
    SetFamilies make();
  }

  static final Class<IndexOutOfBoundsException> INDEX = IndexOutOfBoundsException.class;
  static final Class<IllegalArgumentException> ARGUMENT = IllegalArgumentException.class;
  static final Class<IllegalStateException> STATE = IllegalStateException.class;
  static final int NONE = SetFamilies.NONE;
  static final int LEAST = Integer.MIN_VALUE;
  static final int GREATEST = Integer.MAX_VALUE;
  static final int[] NO_FAMILIES = {-1, 4, LEAST, GREATEST};
  /** The least n, the first one, the greatest one, and those where a row of 64 codes is just full or not. */
  static final int[] GROUNDS = {1, 2, 5, 6, 7, 9, 10};

  private Bench() {}

  // ---- making

  static void type(SetFamilies x, String text) {
    for (char c : text.toCharArray()) {
      x.type(c);
    }
  }

  /** Makes a family the one of a text, which stays there. */
  static int read(SetFamilies x, int family, String text) {
    x.clearText();
    type(x, text);
    return x.read(family);
  }

  /** With n elements, and the families from 0 on by texts. */
  static SetFamilies with(int n, String... texts) {
    SetFamilies x = new SetFamilies();
    x.setGround(n);
    for (int f = 0; f < texts.length; f++) {
      read(x, f, texts[f]);
    }
    return x;
  }

  /** Family 0 has all sets, family 1 the empty set alone, family 2 the set of all elements alone. */
  static SetFamilies full(int n) {
    SetFamilies x = with(n);
    x.add(1, 0);
    x.derive(0, SetFamilies.UP_SET, 1);
    x.add(2, everything(n));
    return x;
  }

  /** All families have sets, the undo stack is full, and there is a text that can be read. */
  static SetFamilies busy(int n) {
    SetFamilies x = with(n, "-,0");
    x.derive(1, SetFamilies.SHADOW, 0);
    x.segment(2, (n + 1) / 2, 1);
    x.add(3, everything(n));
    x.add(3, 1);
    return x;
  }

  static int everything(int n) {
    return (1 << n) - 1;
  }

  static long bit(boolean b) {
    return b ? 1 : 0;
  }

  // ---- telling

  static String codes(SetFamilies x, int family) {
    StringBuilder line = new StringBuilder();
    int size = x.size(family, NONE);
    for (int i = 0; i < size; i++) {
      line.append(i == 0 ? "" : " ").append(x.get(family, i));
    }
    return line.toString();
  }

  static void holds(String what, SetFamilies x, int family, String want) {
    Check.same(what, want, codes(x, family));
  }

  static int elements(SetFamilies x) {
    int n = 10;
    while (n > 1 && !takes(x, everything(n))) {
      n--;
    }
    return n;
  }

  private static boolean takes(SetFamilies x, int set) {
    return !Check.outcome(() -> bit(x.has(0, set))).startsWith("throws.");
  }

  /** n and the codes of the four families. */
  static String families(SetFamilies x) {
    StringBuilder told = new StringBuilder().append(elements(x)).append(':');
    for (int f = 0; f < 4; f++) {
      told.append(f == 0 ? "" : "|").append(codes(x, f));
    }
    return told.toString();
  }

  /**
   * All that later calls could tell of an object, told with few calls, since an object may be used
   * for 512 alone; it is used up by them.
   */
  static String whole(SetFamilies x) {
    StringBuilder told = new StringBuilder();
    String left = "at first";
    // A stack that keeps too many states must not hold up the test.
    for (int i = 0; i < 10 && !left.startsWith("throws."); i++) {
      told.append(left).append(", sizes");
      for (int f = 0; f < 4; f++) {
        told.append(' ').append(x.size(f, NONE));
      }
      told.append(", digest ").append(x.digest()).append("; ");
      left = Check.outcome(x::undo);
    }
    x.setGround(10);
    told.append("the text gives ").append(x.read(0)).append(", ").append(codes(x, 0));
    return told.append(", length ").append(x.clearText()).toString();
  }

  static long mixed(long h, long... values) {
    long out = h;
    for (long v : values) {
      out = 31 * out + v;
    }
    return out;
  }

  /** The hash as the document tells it, from the other answers. */
  static long hash(SetFamilies x, int states, int length, int n) {
    long h = mixed(18454, states, length, n);
    for (int f = 0; f < 4; f++) {
      int size = x.size(f, NONE);
      h = mixed(h, size);
      for (int i = 0; i < size; i++) {
        h = mixed(h, x.get(f, i));
      }
      for (int e = 0; e < n; e++) {
        h = mixed(h, x.degree(f, e));
      }
      for (int property = 0; property <= 5; property++) {
        h = mixed(h, bit(x.is(f, property)));
      }
      h = mixed(h, x.weight(f, false), x.weight(f, true), x.dimension(f), x.shattered(f), x.sunflower(f));
      for (int c = 0; c <= n; c++) {
        h = mixed(h, x.pairs(f, c));
      }
      for (int level = 1; level <= n; level++) {
        h = mixed(h, x.excess(f, level));
      }
    }
    for (int f = 0; f < 4; f++) {
      for (int g = 0; g < 4; g++) {
        h = mixed(h, x.crossing(f, g));
      }
    }
    return h;
  }

  // ---- testing

  /** The call throws just this exception, and all is as it would be without the call. */
  static void refused(Class<? extends RuntimeException> kind, Maker maker, String name, Call call) {
    SetFamilies x = maker.make();
    Check.throwsA(kind, name, () -> call.on(x));
    Check.same("the state after " + name, whole(maker.make()), whole(x));
  }

  static void refused(Class<? extends RuntimeException> kind, int n, String name, Call call) {
    refused(kind, () -> with(n), name + " with n = " + n, call);
    refused(kind, () -> busy(n), name + " with n = " + n + " and full families", call);
  }

  static void refusedFamilies(CallWith call) {
    for (int n : new int[] {1, 10}) {
      for (int f : NO_FAMILIES) {
        refused(INDEX, n, "the call with " + f, x -> call.on(x, f));
      }
    }
  }

  /** What is just beyond the range, and what is far beyond, is no fine argument. */
  static void refusedBeyond(int n, int low, int high, CallWith call) {
    for (int value : new int[] {low - 1, high + 1, LEAST, GREATEST}) {
      refused(ARGUMENT, n, "the call with " + value, x -> call.on(x, value));
    }
  }

  static void refusedNegative(int n, CallWith call) {
    refused(ARGUMENT, n, "the call with -1", x -> call.on(x, -1));
    refused(ARGUMENT, n, "the call with the least int", x -> call.on(x, LEAST));
  }

  static void refusedSets(CallWith call) {
    for (int n : GROUNDS) {
      refusedBeyond(n, 0, everything(n), call);
    }
  }

  /** Both ends of the range are taken, one beyond each is not. */
  static void ends(int n, int low, int high, CallWith call) {
    Check.taken(low + " with n = " + n, () -> call.on(busy(n), low));
    Check.taken(high + " with n = " + n, () -> call.on(busy(n), high));
    Check.turnedDown(low - 1 + " with n = " + n, () -> call.on(busy(n), low - 1));
    Check.turnedDown(high + 1 + " with n = " + n, () -> call.on(busy(n), high + 1));
  }

  /** 0 and the greatest int are taken, -1 is not. */
  static void endsOpen(int n, CallWith call) {
    Check.taken("0 with n = " + n, () -> call.on(busy(n), 0));
    Check.taken("the greatest int with n = " + n, () -> call.on(busy(n), GREATEST));
    Check.turnedDown("-1 with n = " + n, () -> call.on(busy(n), -1));
  }

  static void endsOfSets(CallWith call) {
    for (int n : GROUNDS) {
      ends(n, 0, everything(n), call);
    }
  }

  /** Each of the four families is the one that is asked, and there is none beside them. */
  static void eachFamily(Maker maker, CallWith call, long... wants) {
    for (int f = 0; f < 4; f++) {
      Check.due("the answer for " + f, wants[f], call.on(maker.make(), f));
    }
    noFifth(maker, call);
  }

  /** Each of the four numbers leads to these families. */
  static void eachPlace(Maker maker, CallWith call, String... wants) {
    for (int f = 0; f < 4; f++) {
      SetFamilies x = maker.make();
      call.on(x, f);
      Check.same("the families after " + f, wants[f], families(x));
    }
    noFifth(maker, call);
  }

  private static void noFifth(Maker maker, CallWith call) {
    Check.turnedDown("-1", () -> call.on(maker.make(), -1));
    Check.turnedDown("4", () -> call.on(maker.make(), 4));
  }

  /** The call saves the state from before it; the maker's object must have at most three states. */
  static void undoable(Maker maker, String name, boolean changes, Call call) {
    SetFamilies x = maker.make();
    call.on(x);
    Check.due(name + " changes something", bit(changes), bit(!families(x).equals(families(maker.make()))));
    Check.taken("undo() after " + name, x::undo);
    Check.same("the state after " + name + " and undo()", whole(maker.make()), whole(x));
  }
}
