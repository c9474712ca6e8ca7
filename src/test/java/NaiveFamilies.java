import java.math.BigInteger;
import java.util.ArrayDeque;
import java.util.ArrayList;
import java.util.Deque;
import java.util.List;
import java.util.TreeSet;

/** The document's definitions, followed word by word and with no thought of speed. */
final class NaiveFamilies {
  static final int NONE = -1;

  private static final class State {
    int n;
    List<TreeSet<Integer>> families = new ArrayList<>();
  }

  private int n = 6;
  private List<TreeSet<Integer>> families = new ArrayList<>();
  private final Deque<State> stack = new ArrayDeque<>();
  private final StringBuilder text = new StringBuilder();

  NaiveFamilies() {
    for (int f = 0; f < 4; f++) {
      families.add(new TreeSet<>());
    }
  }

  int elements() {
    return n;
  }

  // ---- checks and undo

  private void family(int... numbers) {
    for (int number : numbers) {
      if (number < 0 || number > 3) {
        throw new IndexOutOfBoundsException();
      }
    }
  }

  private void argument(boolean fine) {
    if (!fine) {
      throw new IllegalArgumentException();
    }
  }

  private boolean isSet(int set) {
    return set >= 0 && set < 1 << n;
  }

  private boolean isElement(int x) {
    return x >= 0 && x < n;
  }

  private void save() {
    State state = new State();
    state.n = n;
    for (TreeSet<Integer> sets : families) {
      state.families.add(new TreeSet<>(sets));
    }
    stack.addLast(state);
    if (stack.size() > 4) {
      stack.removeFirst();
    }
  }

  private int lay(int place, TreeSet<Integer> sets) {
    save();
    families.set(place, sets);
    return sets.size();
  }

  private static boolean in(int x, int set) {
    return (set & (1 << x)) != 0;
  }

  private static boolean subset(int a, int b) {
    for (int x = 0; x < 10; x++) {
      if (in(x, a) && !in(x, b)) {
        return false;
      }
    }
    return true;
  }

  private static boolean properSubset(int a, int b) {
    return a != b && subset(a, b);
  }

  private static int sizeOf(int set) {
    int size = 0;
    for (int x = 0; x < 10; x++) {
      if (in(x, set)) {
        size++;
      }
    }
    return size;
  }

  // ---- families

  int setGround(int elements) {
    argument(elements >= 1 && elements <= 10);
    save();
    int previous = n;
    n = elements;
    families = new ArrayList<>();
    for (int f = 0; f < 4; f++) {
      families.add(new TreeSet<>());
    }
    return previous;
  }

  boolean add(int family, int set) {
    family(family);
    argument(isSet(set));
    save();
    return families.get(family).add(set);
  }

  boolean remove(int family, int set) {
    family(family);
    argument(isSet(set));
    save();
    return families.get(family).remove(set);
  }

  boolean has(int family, int set) {
    family(family);
    argument(isSet(set));
    return families.get(family).contains(set);
  }

  int size(int family, int level) {
    family(family);
    argument(level >= -1 && level <= n);
    int count = 0;
    for (int set : families.get(family)) {
      if (level == NONE || sizeOf(set) == level) {
        count++;
      }
    }
    return count;
  }

  int get(int family, int index) {
    family(family);
    argument(index >= 0);
    List<Integer> sets = new ArrayList<>(families.get(family));
    return index < sets.size() ? sets.get(index) : NONE;
  }

  int degree(int family, int element) {
    family(family);
    argument(isElement(element));
    int count = 0;
    for (int set : families.get(family)) {
      if (in(element, set)) {
        count++;
      }
    }
    return count;
  }

  // ---- operations

  int combine(int place, int operation, int first, int second) {
    family(place, first, second);
    argument(operation >= 0 && operation <= 3);
    TreeSet<Integer> out = new TreeSet<>();
    for (int set = 0; set < 1 << n; set++) {
      boolean a = families.get(first).contains(set);
      boolean b = families.get(second).contains(set);
      boolean[] stays = {a || b, a && b, a && !b, a != b};
      if (stays[operation]) {
        out.add(set);
      }
    }
    return lay(place, out);
  }

  int derive(int place, int operation, int family) {
    family(place, family);
    argument(operation >= 0 && operation <= 9);
    return lay(place, derived(operation, families.get(family)));
  }

  private TreeSet<Integer> derived(int operation, TreeSet<Integer> sets) {
    switch (operation) {
      case 0: return shadow(sets);
      case 1: return upperShadow(sets);
      case 7: return blocker(sets);
      case 8: return closure(sets, true);
      case 9: return closure(sets, false);
      default: break;
    }
    TreeSet<Integer> out = new TreeSet<>();
    for (int s = 0; s < 1 << n; s++) {
      boolean below = false;
      boolean above = false;
      boolean properBelow = false;
      boolean properAbove = false;
      for (int set : sets) {
        below |= subset(s, set);
        above |= subset(set, s);
        properBelow |= properSubset(s, set);
        properAbove |= properSubset(set, s);
      }
      boolean member = sets.contains(s);
      boolean[] stays = {false, false, below, above, member && !properAbove, member && !properBelow, sets.contains((1 << n) - 1 - s)};
      if (stays[operation]) {
        out.add(s);
      }
    }
    return out;
  }

  private TreeSet<Integer> shadow(TreeSet<Integer> sets) {
    TreeSet<Integer> out = new TreeSet<>();
    for (int set : sets) {
      for (int x = 0; x < n; x++) {
        if (in(x, set)) {
          out.add(set - (1 << x));
        }
      }
    }
    return out;
  }

  private TreeSet<Integer> upperShadow(TreeSet<Integer> sets) {
    TreeSet<Integer> out = new TreeSet<>();
    for (int set : sets) {
      for (int x = 0; x < n; x++) {
        if (!in(x, set)) {
          out.add(set + (1 << x));
        }
      }
    }
    return out;
  }

  private TreeSet<Integer> blocker(TreeSet<Integer> sets) {
    TreeSet<Integer> hitting = new TreeSet<>();
    for (int s = 0; s < 1 << n; s++) {
      boolean hits = true;
      for (int set : sets) {
        hits &= (s & set) != 0;
      }
      if (hits) {
        hitting.add(s);
      }
    }
    TreeSet<Integer> out = new TreeSet<>();
    for (int s : hitting) {
      boolean least = true;
      for (int t : hitting) {
        least &= !properSubset(t, s);
      }
      if (least) {
        out.add(s);
      }
    }
    return out;
  }

  private TreeSet<Integer> closure(TreeSet<Integer> sets, boolean union) {
    boolean[] there = new boolean[1 << n];
    for (int set : sets) {
      boolean[] next = there.clone();
      next[set] = true;
      for (int s = 0; s < 1 << n; s++) {
        if (there[s]) {
          next[union ? s | set : s & set] = true;
        }
      }
      there = next;
    }
    TreeSet<Integer> out = new TreeSet<>();
    for (int s = 0; s < 1 << n; s++) {
      if (there[s]) {
        out.add(s);
      }
    }
    return out;
  }

  private int compressed(int family, int j, int i) {
    TreeSet<Integer> old = families.get(family);
    TreeSet<Integer> out = new TreeSet<>();
    int replaced = 0;
    for (int set : old) {
      int other = set - (1 << j) + (1 << i);
      if (in(j, set) && !in(i, set) && !old.contains(other)) {
        out.add(other);
        replaced++;
      } else {
        out.add(set);
      }
    }
    families.set(family, out);
    return replaced;
  }

  int compress(int family, int j, int i) {
    family(family);
    argument(isElement(j) && isElement(i) && i != j);
    save();
    return compressed(family, j, i);
  }

  int shift(int family) {
    family(family);
    save();
    int replaced = 0;
    boolean changed = true;
    while (changed) {
      changed = false;
      for (int i = 0; i <= n - 2; i++) {
        for (int j = i + 1; j <= n - 1; j++) {
          int now = compressed(family, j, i);
          replaced += now;
          changed |= now > 0;
        }
      }
    }
    return replaced;
  }

  private TreeSet<Integer> traceOn(TreeSet<Integer> sets, int s) {
    TreeSet<Integer> out = new TreeSet<>();
    for (int set : sets) {
      out.add(set & s);
    }
    return out;
  }

  int trace(int place, int family, int set) {
    family(place, family);
    argument(isSet(set));
    return lay(place, traceOn(families.get(family), set));
  }

  // ---- colex order

  private static BigInteger over(int a, int b) {
    BigInteger result = BigInteger.ONE;
    for (int i = 0; i < b; i++) {
      result = result.multiply(BigInteger.valueOf(a - i)).divide(BigInteger.valueOf(i + 1));
    }
    return result;
  }

  private static List<Integer> setsOfSize(int k, int elements) {
    List<Integer> out = new ArrayList<>();
    for (int s = 0; s < 1 << elements; s++) {
      if (sizeOf(s) == k) {
        out.add(s);
      }
    }
    return out;
  }

  int segment(int place, int k, int m) {
    family(place);
    argument(k >= 0 && k <= n);
    List<Integer> all = setsOfSize(k, n);
    argument(m >= 0 && m <= all.size());
    lay(place, new TreeSet<>(all.subList(0, m)));
    return m == 0 ? NONE : all.get(m - 1);
  }

  int rank(int set) {
    argument(set >= 0 && set <= 1023);
    return setsOfSize(sizeOf(set), 10).indexOf(set);
  }

  int unrank(int k, int rank) {
    argument(k >= 0 && k <= 10 && rank >= 0);
    List<Integer> all = setsOfSize(k, 10);
    return rank < all.size() ? all.get(rank) : NONE;
  }

  static List<Integer> cascadeOf(int m, int k) {
    List<Integer> out = new ArrayList<>();
    BigInteger left = BigInteger.valueOf(m);
    for (int i = k; left.signum() > 0; i--) {
      int low = i;
      int high = 2000000;
      while (high - low > 1) {
        int middle = (low + high) / 2;
        if (over(middle, i).compareTo(left) <= 0) {
          low = middle;
        } else {
          high = middle;
        }
      }
      out.add(low);
      left = left.subtract(over(low, i));
    }
    return out;
  }

  int cascade(int m, int k, int index) {
    argument(m >= 1 && m <= 1000000 && k >= 1 && k <= 10 && index >= 0);
    List<Integer> numbers = cascadeOf(m, k);
    return index < numbers.size() ? numbers.get(index) : NONE;
  }

  int shadowBound(int m, int k) {
    argument(m >= 0 && m <= 1000000 && k >= 1 && k <= 10);
    BigInteger bound = BigInteger.ZERO;
    List<Integer> numbers = cascadeOf(m, k);
    for (int t = 0; t < numbers.size(); t++) {
      bound = bound.add(over(numbers.get(t), k - t - 1));
    }
    return bound.intValueExact();
  }

  int excess(int family, int level) {
    family(family);
    argument(level >= 1 && level <= n);
    TreeSet<Integer> sets = new TreeSet<>();
    for (int set : families.get(family)) {
      if (sizeOf(set) == level) {
        sets.add(set);
      }
    }
    TreeSet<Integer> initial = new TreeSet<>(setsOfSize(level, n).subList(0, sets.size()));
    return shadow(sets).size() - shadow(initial).size();
  }

  // ---- properties

  boolean is(int family, int property) {
    family(family);
    argument(property >= 0 && property <= 5);
    TreeSet<Integer> sets = families.get(family);
    if (property == 1 && sets.contains(0)) {
      return false;
    }
    if (property == 4) {
      return derived(2, sets).equals(sets);
    }
    if (property == 5) {
      return isCompressed(sets);
    }
    for (int a : sets) {
      for (int b : sets) {
        boolean[] spoils = {properSubset(a, b), a != b && (a & b) == 0, !sets.contains(a | b), !sets.contains(a & b)};
        if (spoils[property]) {
          return false;
        }
      }
    }
    return true;
  }

  private boolean isCompressed(TreeSet<Integer> sets) {
    for (int set : sets) {
      for (int i = 0; i < n; i++) {
        for (int j = i + 1; j < n; j++) {
          if (in(j, set) && !in(i, set) && !sets.contains(set - (1 << j) + (1 << i))) {
            return false;
          }
        }
      }
    }
    return true;
  }

  long weight(int family, boolean denominator) {
    family(family);
    BigInteger top = BigInteger.ZERO;
    BigInteger bottom = BigInteger.ONE;
    for (int set : families.get(family)) {
      BigInteger level = over(n, sizeOf(set));
      top = top.multiply(level).add(bottom);
      bottom = bottom.multiply(level);
      BigInteger divisor = top.gcd(bottom);
      top = top.divide(divisor);
      bottom = bottom.divide(divisor);
    }
    return (denominator ? bottom : top).longValueExact();
  }

  int dimension(int family) {
    int set = shattered(family);
    return set == NONE ? NONE : sizeOf(set);
  }

  int shattered(int family) {
    family(family);
    int best = NONE;
    for (int s = 0; s < 1 << n; s++) {
      boolean shatters = traceOn(families.get(family), s).size() == 1 << sizeOf(s);
      if (shatters && (best == NONE || sizeOf(s) > sizeOf(best))) {
        best = s;
      }
    }
    return best;
  }

  int crossing(int first, int second) {
    family(first, second);
    for (int a : families.get(first)) {
      for (int b : families.get(second)) {
        if ((a & b) == 0) {
          return 1024 * a + b;
        }
      }
    }
    return NONE;
  }

  int sunflower(int family) {
    family(family);
    for (int core = 0; core < 1 << n; core++) {
      List<Integer> above = new ArrayList<>();
      for (int set : families.get(family)) {
        if (subset(core, set)) {
          above.add(set);
        }
      }
      if (isCore(core, above)) {
        return core;
      }
    }
    return NONE;
  }

  private static boolean isCore(int core, List<Integer> sets) {
    for (int a = 0; a < sets.size(); a++) {
      for (int b = a + 1; b < sets.size(); b++) {
        if ((sets.get(a) & sets.get(b)) != core) {
          continue;
        }
        for (int c = b + 1; c < sets.size(); c++) {
          if ((sets.get(a) & sets.get(c)) == core && (sets.get(b) & sets.get(c)) == core) {
            return true;
          }
        }
      }
    }
    return false;
  }

  int pairs(int family, int common) {
    family(family);
    argument(common >= 0 && common <= n);
    int count = 0;
    for (int a : families.get(family)) {
      for (int b : families.get(family).tailSet(a, false)) {
        if (Integer.bitCount(a & b) == common) {
          count++;
        }
      }
    }
    return count;
  }

  // ---- texts, undo and checksum

  int type(int value) {
    argument(value >= 0 && value <= 127);
    if (text.length() == 120) {
      throw new IllegalStateException();
    }
    text.append((char) value);
    return text.length();
  }

  int clearText() {
    int length = text.length();
    text.setLength(0);
    return length;
  }

  int read(int family) {
    family(family);
    for (int i = 0; i < text.length(); i++) {
      if (!canBegin(text.substring(0, i + 1))) {
        return -10 - i;
      }
    }
    if (text.length() > 0 && text.charAt(text.length() - 1) == ',') {
      return -10 - text.length();
    }
    TreeSet<Integer> sets = new TreeSet<>();
    if (text.length() > 0) {
      for (String part : text.toString().split(",")) {
        int set = 0;
        for (char c : part.toCharArray()) {
          set += c == '-' ? 0 : 1 << (c - '0');
        }
        sets.add(set);
      }
    }
    return lay(family, sets);
  }

  /** Whether some text without a fault begins like this. */
  private boolean canBegin(String start) {
    StringBuilder digits = new StringBuilder();
    for (int x = 0; x < n; x++) {
      digits.append(x).append('?');
    }
    String set = "(-|(?=[0-9])" + digits + ")";
    return start.matches("(" + set + ",)*" + set + "?");
  }

  int undo() {
    if (stack.isEmpty()) {
      throw new IllegalStateException();
    }
    State state = stack.removeLast();
    n = state.n;
    families = state.families;
    return stack.size();
  }

  long digest() {
    List<Long> values = new ArrayList<>();
    values.add((long) stack.size());
    values.add((long) text.length());
    values.add((long) n);
    for (int f = 0; f < 4; f++) {
      values.add((long) size(f, NONE));
      for (int set : families.get(f)) {
        values.add((long) set);
      }
      for (int x = 0; x < n; x++) {
        values.add((long) degree(f, x));
      }
      for (int property = 0; property <= 5; property++) {
        values.add(is(f, property) ? 1L : 0L);
      }
      values.add(weight(f, false));
      values.add(weight(f, true));
      values.add((long) dimension(f));
      values.add((long) shattered(f));
      values.add((long) sunflower(f));
      for (int common = 0; common <= n; common++) {
        values.add((long) pairs(f, common));
      }
      for (int level = 1; level <= n; level++) {
        values.add((long) excess(f, level));
      }
    }
    for (int f = 0; f < 4; f++) {
      for (int g = 0; g < 4; g++) {
        values.add((long) crossing(f, g));
      }
    }
    long h = 18454;
    for (long v : values) {
      h = 31 * h + v;
    }
    return h;
  }
}
