import java.util.Arrays;

/** A workbench for families of finite sets; ../shared/DOC.md says what each method promises. */
public final class SetFamilies {
  public static final int NONE = -1;
  public static final int UNION = 0, INTERSECTION = 1, DIFFERENCE = 2, SYMMETRIC = 3;
  public static final int SHADOW = 0, UPPER_SHADOW = 1, DOWN_SET = 2, UP_SET = 3, MINIMAL = 4, MAXIMAL = 5, COMPLEMENTS = 6, BLOCKER = 7, UNIONS = 8, INTERSECTIONS = 9;

  private static final int ANTICHAIN = 0, INTERSECTING = 1, UNION_CLOSED = 2, INTERSECTION_CLOSED = 3, SUBSET_CLOSED = 4, COMPRESSED = 5;
  private static final int FAMILIES = 4;
  private static final int FIRST_ELEMENTS = 6;
  private static final int MOST_ELEMENTS = 10;
  private static final int MOST_CODES = 1 << MOST_ELEMENTS;
  private static final int MOST_SETS = 1000000;
  private static final int MOST_BYTES = 120;
  private static final int BYTE_VALUES = 128;
  private static final int FIRST_FAULT = -10;
  private static final long FIRST_HASH = 18454L;

  private final Ground ground;
  private final Family[] families;
  private final History history;
  private final Text text;
  private final Derivation derivation;
  private final Compression compression;
  private final Shattering shattering;
  private final SunflowerSearch sunflowers;
  private final PairCounts pairCounts;
  private final int[] members;
  // Results grow here and are laid at their place last, since the place may be one that is read.
  private final Family result;
  private final Family helper;

  public SetFamilies() {
    ground = new Ground(FIRST_ELEMENTS);
    families = new Family[FAMILIES];
    for (int f = 0; f < FAMILIES; f++) {
      families[f] = new Family(ground);
    }
    history = new History(ground);
    text = new Text();
    derivation = new Derivation(ground);
    compression = new Compression(ground);
    shattering = new Shattering(ground);
    sunflowers = new SunflowerSearch(ground, derivation);
    pairCounts = new PairCounts(ground);
    members = new int[MOST_CODES];
    result = new Family(ground);
    helper = new Family(ground);
  }

  // ---- families

  public int setGround(int elements) throws IllegalArgumentException {
    checkRange(elements, 1, MOST_ELEMENTS);
    int previous = ground.elements;
    history.save(ground, families);
    ground.become(elements);
    for (int f = 0; f < FAMILIES; f++) {
      families[f].clear();
    }
    return previous;
  }

  public boolean add(int family, int set) throws IndexOutOfBoundsException, IllegalArgumentException {
    checkFamily(family);
    checkSet(set);
    history.save(ground, families);
    boolean isNew = !families[family].contains(set);
    families[family].put(set);
    return isNew;
  }

  public boolean remove(int family, int set) throws IndexOutOfBoundsException, IllegalArgumentException {
    checkFamily(family);
    checkSet(set);
    history.save(ground, families);
    boolean wasThere = families[family].contains(set);
    families[family].drop(set);
    return wasThere;
  }

  public boolean has(int family, int set) throws IndexOutOfBoundsException, IllegalArgumentException {
    checkFamily(family);
    checkSet(set);
    return families[family].contains(set);
  }

  public int size(int family, int level) throws IndexOutOfBoundsException, IllegalArgumentException {
    checkFamily(family);
    if (level == NONE) {
      return families[family].count();
    }
    checkRange(level, 0, ground.elements);
    return families[family].countOfSize(level);
  }

  public int get(int family, int index) throws IndexOutOfBoundsException, IllegalArgumentException {
    checkFamily(family);
    checkNotNegative(index);
    return families[family].atIndex(index);
  }

  public int degree(int family, int element) throws IndexOutOfBoundsException, IllegalArgumentException {
    checkFamily(family);
    checkElement(element);
    return families[family].countHolding(element);
  }

  // ---- operations

  public int combine(int place, int operation, int first, int second) throws IndexOutOfBoundsException, IllegalArgumentException {
    checkFamily(place);
    checkFamily(first);
    checkFamily(second);
    checkRange(operation, UNION, SYMMETRIC);
    combineInto(result, operation, families[first], families[second]);
    return lay(place);
  }

  public int derive(int place, int operation, int family) throws IndexOutOfBoundsException, IllegalArgumentException {
    checkFamily(place);
    checkFamily(family);
    checkRange(operation, SHADOW, INTERSECTIONS);
    derivation.lay(result, operation, families[family]);
    return lay(place);
  }

  public int compress(int family, int j, int i) throws IndexOutOfBoundsException, IllegalArgumentException {
    checkFamily(family);
    checkElement(j);
    checkElement(i);
    if (i == j) {
      throw new IllegalArgumentException("the two elements are equal");
    }
    history.save(ground, families);
    return compression.replace(families[family], j, i);
  }

  public int shift(int family) throws IndexOutOfBoundsException {
    checkFamily(family);
    history.save(ground, families);
    return compression.replaceAll(families[family]);
  }

  public int trace(int place, int family, int set) throws IndexOutOfBoundsException, IllegalArgumentException {
    checkFamily(place);
    checkFamily(family);
    checkSet(set);
    result.copy(families[family]);
    for (int x = 0; x < ground.elements; x++) {
      if (!holds(set, x)) {
        result.forget(x);
      }
    }
    return lay(place);
  }

  // ---- colex order

  public int segment(int place, int k, int m) throws IndexOutOfBoundsException, IllegalArgumentException {
    checkFamily(place);
    checkRange(k, 0, ground.elements);
    checkRange(m, 0, (int) Colex.binomial(ground.elements, k));
    int last = NONE;
    int left = m;
    result.clear();
    for (int code = 0; code <= ground.everything() && left > 0; code++) {
      if (Integer.bitCount(code) == k) {
        result.put(code);
        last = code;
        left--;
      }
    }
    lay(place);
    return last;
  }

  public int rank(int set) throws IllegalArgumentException {
    checkRange(set, 0, MOST_CODES - 1);
    return Colex.rankOf(set);
  }

  public int unrank(int k, int rank) throws IllegalArgumentException {
    checkRange(k, 0, MOST_ELEMENTS);
    checkNotNegative(rank);
    return Colex.setOf(k, rank);
  }

  public int cascade(int m, int k, int index) throws IllegalArgumentException {
    checkRange(m, 1, MOST_SETS);
    checkRange(k, 1, MOST_ELEMENTS);
    checkNotNegative(index);
    return Colex.cascadeNumber(m, k, index);
  }

  public int shadowBound(int m, int k) throws IllegalArgumentException {
    checkRange(m, 0, MOST_SETS);
    checkRange(k, 1, MOST_ELEMENTS);
    return Colex.leastShadow(m, k);
  }

  public int excess(int family, int level) throws IndexOutOfBoundsException, IllegalArgumentException {
    checkFamily(family);
    checkRange(level, 1, ground.elements);
    return excessOf(families[family], level);
  }

  // ---- properties

  public boolean is(int family, int property) throws IndexOutOfBoundsException, IllegalArgumentException {
    checkFamily(family);
    checkRange(property, ANTICHAIN, COMPRESSED);
    return hasProperty(families[family], property);
  }

  public long weight(int family, boolean denominator) throws IndexOutOfBoundsException {
    checkFamily(family);
    return weightOf(families[family], denominator);
  }

  public int dimension(int family) throws IndexOutOfBoundsException {
    checkFamily(family);
    return sizeOrNone(shattering.firstLargest(families[family]));
  }

  public int shattered(int family) throws IndexOutOfBoundsException {
    checkFamily(family);
    return shattering.firstLargest(families[family]);
  }

  public int crossing(int first, int second) throws IndexOutOfBoundsException {
    checkFamily(first);
    checkFamily(second);
    return firstDisjointPair(families[first], families[second]);
  }

  public int sunflower(int family) throws IndexOutOfBoundsException {
    checkFamily(family);
    return sunflowers.leastCore(families[family]);
  }

  public int pairs(int family, int common) throws IndexOutOfBoundsException, IllegalArgumentException {
    checkFamily(family);
    checkRange(common, 0, ground.elements);
    pairCounts.countAll(families[family]);
    return pairCounts.withCommon(common);
  }

  // ---- texts, undo and checksum

  public int type(int value) throws IllegalArgumentException, IllegalStateException {
    checkRange(value, 0, BYTE_VALUES - 1);
    if (text.length >= MOST_BYTES) {
      throw new IllegalStateException("the text is full");
    }
    text.append(value);
    return text.length;
  }

  public int clearText() {
    int length = text.length;
    text.length = 0;
    return length;
  }

  public int read(int family) throws IndexOutOfBoundsException {
    checkFamily(family);
    int fault = text.parse(result, ground.elements);
    return fault == NONE ? lay(family) : FIRST_FAULT - fault;
  }

  public int undo() throws IllegalStateException {
    if (history.depth == 0) {
      throw new IllegalStateException("the undo stack is empty");
    }
    history.restore(ground, families);
    return history.depth;
  }

  public long digest() {
    long h = FIRST_HASH;
    h = mix(h, history.depth);
    h = mix(h, text.length);
    h = mix(h, ground.elements);
    for (int f = 0; f < FAMILIES; f++) {
      h = mixMembers(h, families[f]);
      h = mixProperties(h, families[f]);
      h = mixStructure(h, families[f]);
    }
    for (int f = 0; f < FAMILIES; f++) {
      for (int g = 0; g < FAMILIES; g++) {
        h = mix(h, firstDisjointPair(families[f], families[g]));
      }
    }
    return h;
  }

  // ---- what the face shares

  private static void checkFamily(int family) {
    if (family < 0 || family >= FAMILIES) {
      throw new IndexOutOfBoundsException("no such family");
    }
  }

  private static void checkRange(int value, int least, int greatest) {
    if (value < least || value > greatest) {
      throw new IllegalArgumentException("out of range");
    }
  }

  private static void checkNotNegative(int value) {
    if (value < 0) {
      throw new IllegalArgumentException("negative");
    }
  }

  private void checkSet(int set) {
    checkRange(set, 0, ground.everything());
  }

  private void checkElement(int element) {
    checkRange(element, 0, ground.elements - 1);
  }

  private static boolean holds(int set, int element) {
    return ((set >> element) & 1) == 1;
  }

  /**
   * The first code behind a branch: a set and all that comes from it by adding lesser elements.
   * Those are its next codes, so a search by ascending codes can leave a branch out.
   */
  private static int branchEnd(int set, int all) {
    return set == 0 ? all + 1 : set + (set & -set);
  }

  private static int sizeOrNone(int set) {
    return set == NONE ? NONE : Integer.bitCount(set);
  }

  private int lay(int place) {
    history.save(ground, families);
    families[place].copy(result);
    return result.count();
  }

  private static void combineInto(Family target, int operation, Family first, Family second) {
    target.copy(first);
    switch (operation) {
      case UNION:
        target.join(second);
        break;
      case INTERSECTION:
        target.meet(second);
        break;
      case DIFFERENCE:
        target.subtract(second);
        break;
      default:
        target.differ(second);
        break;
    }
  }

  private int excessOf(Family family, int level) {
    helper.copy(family);
    helper.keepOfSize(level);
    result.becomeShadow(helper);
    return result.count() - Colex.leastShadow(helper.count(), level);
  }

  private boolean hasProperty(Family family, int property) {
    switch (property) {
      case ANTICHAIN:
        derivation.layMinimal(result, family);
        return result.sameAs(family);
      case INTERSECTING:
        // The empty set is disjoint from itself, so it spoils this without a second set.
        return firstDisjointPair(family, family) == NONE;
      case UNION_CLOSED:
        derivation.layUnions(result, family);
        return result.sameAs(family);
      case INTERSECTION_CLOSED:
        derivation.layIntersections(result, family);
        return result.sameAs(family);
      case SUBSET_CLOSED:
        result.becomeShadow(family);
        result.subtract(family);
        return result.count() == 0;
      default:
        return compression.changesNothing(family);
    }
  }

  private long weightOf(Family family, boolean denominator) {
    long numerator = 0;
    for (int k = 0; k <= ground.elements; k++) {
      long level = Math.max(1L, Colex.binomial(ground.elements, k));
      numerator += family.countOfSize(k) * (Colex.COMMON_DENOMINATOR / level);
    }
    long divisor = Math.max(1L, Colex.greatestDivisor(numerator, Colex.COMMON_DENOMINATOR));
    return (denominator ? Colex.COMMON_DENOMINATOR : numerator) / divisor;
  }

  private int firstDisjointPair(Family first, Family second) {
    // A set misses a set of the second family just if its complement is above one.
    result.copy(second);
    result.closeUpwards();
    result.mirror();
    result.meet(first);
    int left = result.atIndex(0);
    if (left == NONE) {
      return NONE;
    }
    result.copy(second);
    for (int x = 0; x < ground.elements; x++) {
      if (holds(left, x)) {
        result.keepLacking(x);
      }
    }
    return MOST_CODES * left + result.atIndex(0);
  }

  private static long mix(long h, long value) {
    return 31 * h + value;
  }

  private long mixMembers(long before, Family family) {
    int count = family.listInto(members);
    long h = mix(before, count);
    for (int i = 0; i < count && i < members.length; i++) {
      h = mix(h, members[i]);
    }
    for (int x = 0; x < ground.elements; x++) {
      h = mix(h, family.countHolding(x));
    }
    return h;
  }

  private long mixProperties(long before, Family family) {
    long h = before;
    for (int property = ANTICHAIN; property <= COMPRESSED; property++) {
      h = mix(h, hasProperty(family, property) ? 1 : 0);
    }
    h = mix(h, weightOf(family, false));
    return mix(h, weightOf(family, true));
  }

  private long mixStructure(long before, Family family) {
    int largest = shattering.firstLargest(family);
    long h = mix(before, sizeOrNone(largest));
    h = mix(h, largest);
    h = mix(h, sunflowers.leastCore(family));
    pairCounts.countAll(family);
    for (int common = 0; common <= ground.elements; common++) {
      h = mix(h, pairCounts.withCommon(common));
    }
    for (int level = 1; level <= ground.elements; level++) {
      h = mix(h, excessOf(family, level));
    }
    return h;
  }

  /** How many elements there are now: one object, so that all rows of bits follow it at once. */
  private static final class Ground {
    int elements;
    int words;

    Ground(int elements) {
      this.elements = elements;
      this.words = wordsFor(elements);
    }

    void become(int newElements) {
      elements = newElements;
      words = wordsFor(newElements);
    }

    int everything() {
      return (1 << elements) - 1;
    }

    private static int wordsFor(int elements) {
      return elements <= Family.WORD_ELEMENTS ? 1 : 1 << (elements - Family.WORD_ELEMENTS);
    }
  }

  /**
   * A family as a row of bits, one for each code, so that a step treats 64 sets at once.
   * Words behind those that the ground needs stay 0.
   */
  private static final class Family {
    static final int WORD_ELEMENTS = 6;
    private static final int WORD_CODES = 1 << WORD_ELEMENTS;
    private static final int WORDS = MOST_CODES / WORD_CODES;
    // For each element below 6 the codes of a word that lack it. A set with such an element and
    // the set without it lie in one word; with a greater one they lie a number of words apart.
    private static final long[] LACKING = {
      0x5555555555555555L, 0x3333333333333333L, 0x0F0F0F0F0F0F0F0FL,
      0x00FF00FF00FF00FFL, 0x0000FFFF0000FFFFL, 0x00000000FFFFFFFFL,
    };
    // For each size up to 6 the codes of a word that have so many elements below 6.
    private static final long[] OF_SIZE = {
      0x0000000000000001L, 0x0000000100010116L, 0x0001011601161668L, 0x0116166816686880L,
      0x1668688068808000L, 0x6880800080000000L, 0x8000000000000000L,
    };

    private final Ground ground;
    private final long[] words;

    Family(Ground ground) {
      this.ground = ground;
      this.words = new long[WORDS];
    }

    void clear() {
      Arrays.fill(words, 0L);
    }

    void copy(Family source) {
      System.arraycopy(source.words, 0, words, 0, WORDS);
    }

    boolean contains(int code) {
      return (words[wordOf(code)] & bitOf(code)) != 0;
    }

    void put(int code) {
      words[wordOf(code)] |= bitOf(code);
    }

    void drop(int code) {
      words[wordOf(code)] &= ~bitOf(code);
    }

    int count() {
      int count = 0;
      for (int w = 0; w < ground.words; w++) {
        count += Long.bitCount(words[w]);
      }
      return count;
    }

    int countOfSize(int k) {
      int count = 0;
      for (int w = 0; w < ground.words; w++) {
        count += Long.bitCount(words[w] & ofSize(w, k));
      }
      return count;
    }

    int countHolding(int x) {
      int count = 0;
      for (int w = 0; w < ground.words; w++) {
        count += Long.bitCount(words[w] & ~lacking(w, x));
      }
      return count;
    }

    int atIndex(int index) {
      int left = index;
      for (int w = 0; w < ground.words; w++) {
        int here = Long.bitCount(words[w]);
        if (left < here) {
          return w * WORD_CODES + bitAt(words[w], left);
        }
        left -= here;
      }
      return NONE;
    }

    int listInto(int[] codes) {
      int listed = 0;
      for (int w = 0; w < ground.words; w++) {
        long rest = words[w];
        for (int left = Long.bitCount(rest); left > 0 && listed < codes.length; left--) {
          codes[listed] = w * WORD_CODES + lowestBit(rest);
          listed++;
          rest &= rest - 1;
        }
      }
      return listed;
    }

    boolean sameAs(Family other) {
      for (int w = 0; w < ground.words; w++) {
        if (words[w] != other.words[w]) {
          return false;
        }
      }
      return true;
    }

    void join(Family other) {
      for (int w = 0; w < ground.words; w++) {
        words[w] |= other.words[w];
      }
    }

    void meet(Family other) {
      for (int w = 0; w < ground.words; w++) {
        words[w] &= other.words[w];
      }
    }

    void subtract(Family other) {
      for (int w = 0; w < ground.words; w++) {
        words[w] &= ~other.words[w];
      }
    }

    void differ(Family other) {
      for (int w = 0; w < ground.words; w++) {
        words[w] ^= other.words[w];
      }
    }

    /** Takes all sets that are not in it instead of those that are. */
    void invert() {
      long all = ground.elements < WORD_ELEMENTS ? (1L << (1 << ground.elements)) - 1 : -1L;
      for (int w = 0; w < ground.words; w++) {
        words[w] = ~words[w] & all;
      }
    }

    void keepOfSize(int k) {
      for (int w = 0; w < ground.words; w++) {
        words[w] &= ofSize(w, k);
      }
    }

    void keepLacking(int x) {
      for (int w = 0; w < ground.words; w++) {
        words[w] &= lacking(w, x);
      }
    }

    void keepHolding(int x) {
      for (int w = 0; w < ground.words; w++) {
        words[w] &= ~lacking(w, x);
      }
    }

    /** Adds each set of the source that holds x, without x; the source may be this family. */
    void joinLowered(Family source, int x) {
      if (x >= 0 && x < LACKING.length) {
        long mask = LACKING[x];
        for (int w = 0; w < ground.words; w++) {
          words[w] |= (source.words[w] >>> (1 << x)) & mask;
        }
      } else {
        int step = 1 << (x - WORD_ELEMENTS);
        for (int w = 0; w + step < ground.words; w++) {
          if ((w & step) == 0) {
            words[w] |= source.words[w + step];
          }
        }
      }
    }

    /** Adds each set of the source that lacks x, with x; the source may be this family. */
    void joinRaised(Family source, int x) {
      if (x >= 0 && x < LACKING.length) {
        long mask = LACKING[x];
        for (int w = 0; w < ground.words; w++) {
          words[w] |= (source.words[w] & mask) << (1 << x);
        }
      } else {
        int step = 1 << (x - WORD_ELEMENTS);
        for (int w = step; w < ground.words; w++) {
          if ((w & step) != 0) {
            words[w] |= source.words[w - step];
          }
        }
      }
    }

    /** Takes x out of all sets. */
    void forget(int x) {
      joinLowered(this, x);
      keepLacking(x);
    }

    void closeUpwards() {
      for (int x = 0; x < ground.elements; x++) {
        joinRaised(this, x);
      }
    }

    void closeDownwards() {
      for (int x = 0; x < ground.elements; x++) {
        joinLowered(this, x);
      }
    }

    void becomeShadow(Family source) {
      clear();
      for (int x = 0; x < ground.elements; x++) {
        joinLowered(source, x);
      }
    }

    void becomeUpperShadow(Family source) {
      clear();
      for (int x = 0; x < ground.elements; x++) {
        joinRaised(source, x);
      }
    }

    /** Takes the complement of each set instead of the set. */
    void mirror() {
      for (int x = 0; x < ground.elements; x++) {
        exchange(x);
      }
    }

    /** Takes x out of the sets that hold it and puts it into the others. */
    private void exchange(int x) {
      if (x >= 0 && x < LACKING.length) {
        long mask = LACKING[x];
        for (int w = 0; w < ground.words; w++) {
          words[w] = ((words[w] >>> (1 << x)) & mask) | ((words[w] & mask) << (1 << x));
        }
      } else {
        int step = 1 << (x - WORD_ELEMENTS);
        for (int w = 0; w + step < ground.words; w++) {
          if ((w & step) == 0) {
            long word = words[w];
            words[w] = words[w + step];
            words[w + step] = word;
          }
        }
      }
    }

    static int lowestBit(long word) {
      return Long.bitCount((word & -word) - 1);
    }

    private static int bitAt(long word, int index) {
      long rest = word;
      for (int i = 0; i < index; i++) {
        rest &= rest - 1;
      }
      return lowestBit(rest);
    }

    private static int wordOf(int code) {
      return (code / WORD_CODES) & (WORDS - 1);
    }

    private static long bitOf(int code) {
      return 1L << (code & (WORD_CODES - 1));
    }

    private static long lacking(int w, int x) {
      if (x >= 0 && x < LACKING.length) {
        return LACKING[x];
      }
      return (w & (1 << (x - WORD_ELEMENTS))) == 0 ? -1L : 0L;
    }

    private static long ofSize(int w, int k) {
      int inWord = k - Integer.bitCount(w);
      return inWord >= 0 && inWord < OF_SIZE.length ? OF_SIZE[inWord] : 0L;
    }
  }

  /** The latest saved states, in rows that go round. */
  private static final class History {
    private static final int MOST_STATES = 4;
    int depth;
    private int newest;
    private final int[] elements;
    private final Family[] saved;

    History(Ground ground) {
      elements = new int[MOST_STATES];
      saved = new Family[MOST_STATES * FAMILIES];
      for (int i = 0; i < saved.length; i++) {
        saved[i] = new Family(ground);
      }
    }

    void save(Ground ground, Family[] families) {
      newest = (newest + 1) % MOST_STATES;
      elements[newest] = ground.elements;
      for (int f = 0; f < FAMILIES; f++) {
        saved[newest * FAMILIES + f].copy(families[f]);
      }
      depth = Math.min(depth + 1, MOST_STATES);
    }

    void restore(Ground ground, Family[] families) {
      ground.become(elements[newest]);
      for (int f = 0; f < FAMILIES; f++) {
        families[f].copy(saved[newest * FAMILIES + f]);
      }
      newest = (newest + MOST_STATES - 1) % MOST_STATES;
      depth--;
    }
  }

  private static final class Text {
    int length;
    private final byte[] bytes;

    Text() {
      bytes = new byte[MOST_BYTES];
    }

    void append(int value) {
      if (length < bytes.length) {
        bytes[length] = (byte) value;
        length++;
      }
    }

    /** Lays the family of the text at the target and answers NONE, or answers the fault. */
    int parse(Family target, int elements) {
      int set = 0;
      int leastDigit = 0;
      boolean begun = false;
      target.clear();
      for (int i = 0; i < length; i++) {
        int digit = bytes[i] - '0';
        if (begun && bytes[i] == ',') {
          target.put(set);
          set = 0;
          leastDigit = 0;
          begun = false;
        } else if (!begun && bytes[i] == '-') {
          // No digit may follow the empty set.
          leastDigit = elements;
          begun = true;
        } else if (digit >= leastDigit && digit < elements) {
          set |= 1 << digit;
          leastDigit = digit + 1;
          begun = true;
        } else {
          return i;
        }
      }
      if (begun) {
        target.put(set);
      }
      return begun || length == 0 ? NONE : length;
    }
  }

  /** Families that come from one family; a target is never the source. */
  private static final class Derivation {
    private final Ground ground;
    private final Family bound;
    private final Family part;
    private final Family turned;

    Derivation(Ground ground) {
      this.ground = ground;
      bound = new Family(ground);
      part = new Family(ground);
      turned = new Family(ground);
    }

    void lay(Family target, int operation, Family source) {
      switch (operation) {
        case SHADOW:
          target.becomeShadow(source);
          break;
        case UPPER_SHADOW:
          target.becomeUpperShadow(source);
          break;
        case DOWN_SET:
          target.copy(source);
          target.closeDownwards();
          break;
        case UP_SET:
          target.copy(source);
          target.closeUpwards();
          break;
        case MINIMAL:
          layMinimal(target, source);
          break;
        case MAXIMAL:
          layMaximal(target, source);
          break;
        case COMPLEMENTS:
          target.copy(source);
          target.mirror();
          break;
        case BLOCKER:
          layBlocker(target, source);
          break;
        case UNIONS:
          layUnions(target, source);
          break;
        default:
          layIntersections(target, source);
          break;
      }
    }

    void layMinimal(Family target, Family source) {
      bound.becomeUpperShadow(source);
      bound.closeUpwards();
      target.copy(source);
      target.subtract(bound);
    }

    void layUnions(Family target, Family source) {
      // A set is a union of sets of the source just if each of its elements
      // lies in one of them that is a subset of it.
      target.clear();
      target.invert();
      for (int x = 0; x < ground.elements; x++) {
        part.copy(source);
        part.keepHolding(x);
        part.closeUpwards();
        part.invert();
        part.keepHolding(x);
        target.subtract(part);
      }
      // The empty set has no element that could tell, and no set at all does not count as a union.
      if (!source.contains(0)) {
        target.drop(0);
      }
    }

    void layIntersections(Family target, Family source) {
      turned.copy(source);
      turned.mirror();
      layUnions(target, turned);
      target.mirror();
    }

    private void layMaximal(Family target, Family source) {
      bound.becomeShadow(source);
      bound.closeDownwards();
      target.copy(source);
      target.subtract(bound);
    }

    private void layBlocker(Family target, Family source) {
      // A set hits the source just if its complement is above none of its sets.
      turned.copy(source);
      turned.closeUpwards();
      turned.invert();
      turned.mirror();
      layMinimal(target, turned);
    }
  }

  private static final class Compression {
    // Each round that changes something lessens the sum of all elements of all sets,
    // which is at most 1024 * 45; the bound lies above that.
    private static final int MOST_ROUNDS = 100000;
    private final Ground ground;
    private final Family between;
    private final Family arriving;
    private final Family leaving;

    Compression(Ground ground) {
      this.ground = ground;
      between = new Family(ground);
      arriving = new Family(ground);
      leaving = new Family(ground);
    }

    int replace(Family family, int j, int i) {
      layExchanged(arriving, family, j, i);
      arriving.subtract(family);
      layExchanged(leaving, arriving, i, j);
      family.subtract(leaving);
      family.join(arriving);
      return arriving.count();
    }

    int replaceAll(Family family) {
      int replaced = 0;
      for (int round = 0; round < MOST_ROUNDS; round++) {
        int inRound = replaceOnce(family);
        replaced += inRound;
        if (inRound == 0) {
          break;
        }
      }
      return replaced;
    }

    boolean changesNothing(Family family) {
      for (int i = 0; i < ground.elements - 1; i++) {
        for (int j = i + 1; j < ground.elements; j++) {
          layExchanged(arriving, family, j, i);
          arriving.subtract(family);
          if (arriving.count() > 0) {
            return false;
          }
        }
      }
      return true;
    }

    private int replaceOnce(Family family) {
      int replaced = 0;
      for (int i = 0; i < ground.elements - 1; i++) {
        for (int j = i + 1; j < ground.elements; j++) {
          replaced += replace(family, j, i);
        }
      }
      return replaced;
    }

    /** Lays at the target the sets of the source that hold `from` and not `to`, with `to` instead. */
    private void layExchanged(Family target, Family source, int from, int to) {
      between.clear();
      between.joinLowered(source, from);
      target.clear();
      target.joinRaised(between, to);
    }
  }

  private static final class Shattering {
    private final Ground ground;
    // The trace at index d is that of the family without the d elements which are dropped now.
    private final Family[] traces;

    Shattering(Ground ground) {
      this.ground = ground;
      traces = new Family[MOST_ELEMENTS + 1];
      for (int d = 0; d < traces.length; d++) {
        traces[d] = new Family(ground);
      }
    }

    /** The first of the largest sets that a family shatters; NONE for the empty family. */
    int firstLargest(Family family) {
      if (family.count() == 0) {
        return NONE;
      }
      int all = ground.everything();
      int best = 0;
      int bestSize = 0;
      int next = 0;
      for (int dropped = 0; dropped <= all; dropped++) {
        if (dropped < next) {
          continue;
        }
        int kept = all ^ dropped;
        int size = Integer.bitCount(kept);
        // What is kept falls, so a later set of the same size is an earlier one by its code.
        if (layTrace(family, dropped).count() == 1 << size && size >= bestSize) {
          best = kept;
          bestSize = size;
        }
        // The rest of the branch keeps fewer elements.
        next = size > bestSize ? dropped + 1 : branchEnd(dropped, all);
      }
      return best;
    }

    /**
     * By ascending codes, nothing with as few elements comes between a set without its least
     * element and the set itself, so the trace one index lower is still the one to go on from.
     */
    private Family layTrace(Family family, int dropped) {
      int depth = Math.min(Integer.bitCount(dropped), MOST_ELEMENTS);
      Family trace = traces[depth];
      if (depth == 0) {
        trace.copy(family);
      } else {
        trace.copy(traces[depth - 1]);
        trace.forget(Family.lowestBit(dropped));
      }
      return trace;
    }
  }

  private static final class SunflowerSearch {
    private static final int PETALS = 3;
    private final Ground ground;
    private final Derivation derivation;
    // The link at index d has what is left of the sets above the core, which has d elements now.
    private final Family[] links;
    private final Family rest;
    private final Family petals;
    private final int[] codes;

    SunflowerSearch(Ground ground, Derivation derivation) {
      this.ground = ground;
      this.derivation = derivation;
      links = new Family[MOST_ELEMENTS + 1];
      for (int d = 0; d < links.length; d++) {
        links[d] = new Family(ground);
      }
      rest = new Family(ground);
      petals = new Family(ground);
      codes = new int[MOST_CODES];
    }

    int leastCore(Family family) {
      int all = ground.everything();
      int next = 0;
      for (int core = 0; core <= all; core++) {
        if (core < next) {
          continue;
        }
        Family link = layLink(family, core);
        boolean enough = link.count() >= PETALS;
        if (enough && hasDisjointSets(link)) {
          return core;
        }
        // The rest of the branch has no other sets above it.
        next = enough ? core + 1 : branchEnd(core, all);
      }
      return NONE;
    }

    /** The link one index lower is the right one, as at layTrace. */
    private Family layLink(Family family, int core) {
      int depth = Math.min(Integer.bitCount(core), MOST_ELEMENTS);
      Family link = links[depth];
      if (depth == 0) {
        link.copy(family);
      } else {
        link.clear();
        link.joinLowered(links[depth - 1], Family.lowestBit(core));
      }
      return link;
    }

    private boolean hasDisjointSets(Family link) {
      // If there are disjoint sets, there are minimal ones too; the empty set is disjoint from all.
      rest.copy(link);
      rest.drop(0);
      derivation.layMinimal(petals, rest);
      int count = Math.min(petals.listInto(codes), codes.length);
      return link.contains(0) ? hasPair(0, count, 0) : hasTriple(count);
    }

    private boolean hasTriple(int count) {
      for (int i = 0; i < count; i++) {
        if (hasPair(i + 1, count, codes[i])) {
          return true;
        }
      }
      return false;
    }

    private boolean hasPair(int from, int count, int taken) {
      for (int i = from; i < count; i++) {
        if ((codes[i] & taken) == 0 && hasOne(i + 1, count, taken | codes[i])) {
          return true;
        }
      }
      return false;
    }

    private boolean hasOne(int from, int count, int taken) {
      for (int i = from; i < count; i++) {
        if ((codes[i] & taken) == 0) {
          return true;
        }
      }
      return false;
    }
  }

  private static final class PairCounts {
    private final Ground ground;
    private final int[] above;
    private final long[] counts;

    PairCounts(Ground ground) {
      this.ground = ground;
      above = new int[MOST_CODES];
      counts = new long[MOST_ELEMENTS + 1];
    }

    int withCommon(int common) {
      return common >= 0 && common < counts.length ? (int) counts[common] : 0;
    }

    /** Counts the pairs by what they have in common, without a look at each pair. */
    void countAll(Family family) {
      countAbove(family);
      countCommonSubsets();
      // Each pair with t elements in common was counted once for each c of these t.
      for (int c = ground.elements; c >= 0; c--) {
        for (int t = c + 1; t <= ground.elements; t++) {
          counts[c] -= Colex.binomial(t, c) * counts[t];
        }
      }
    }

    /** Counts for each set the sets of the family of which it is a subset. */
    private void countAbove(Family family) {
      int all = ground.everything();
      for (int code = 0; code <= all; code++) {
        above[code] = family.contains(code) ? 1 : 0;
      }
      for (int x = 0; x < ground.elements; x++) {
        int bit = 1 << x;
        for (int code = 0; code + bit <= all; code++) {
          if ((code & bit) == 0) {
            above[code] += above[code + bit];
          }
        }
      }
    }

    private void countCommonSubsets() {
      Arrays.fill(counts, 0L);
      for (int code = 0; code <= ground.everything(); code++) {
        long sets = above[code];
        counts[Integer.bitCount(code)] += sets * (sets - 1) / 2;
      }
    }
  }

  /** Numbers of the colex order and of cascades. */
  private static final class Colex {
    // Each (n over k) with n up to 10 divides it.
    static final long COMMON_DENOMINATOR = 2520L;
    // For i of 2 or more, (1500 over i) is above all numbers of sets that are asked for.
    private static final int MOST_TOP = 1500;
    private static final int MOST_DIVISIONS = 1000;

    static long binomial(int a, int b) {
      if (b < 0 || b > a) {
        return 0L;
      }
      long product = 1L;
      for (int i = 1; i <= b; i++) {
        product = product * (a - b + i) / i;
      }
      return product;
    }

    static int rankOf(int set) {
      long rank = 0;
      int size = 0;
      for (int x = 0; x < MOST_ELEMENTS; x++) {
        if (holds(set, x)) {
          size++;
          rank += binomial(x, size);
        }
      }
      return (int) rank;
    }

    static int setOf(int k, int rank) {
      if (rank >= binomial(MOST_ELEMENTS, k)) {
        return NONE;
      }
      int set = 0;
      int size = k;
      long left = rank;
      for (int x = MOST_ELEMENTS - 1; x >= 0 && size > 0; x--) {
        long before = binomial(x, size);
        if (before <= left) {
          left -= before;
          set |= 1 << x;
          size--;
        }
      }
      return set;
    }

    static int cascadeNumber(int m, int k, int index) {
      int left = m;
      for (int i = k; i >= 1 && left > 0; i--) {
        int top = greatestTop(left, i);
        if (k - i == index) {
          return top;
        }
        left -= (int) binomial(top, i);
      }
      return NONE;
    }

    static int leastShadow(int m, int k) {
      int left = m;
      long bound = 0;
      for (int i = k; i >= 1 && left > 0; i--) {
        int top = greatestTop(left, i);
        bound += binomial(top, i - 1);
        left -= (int) binomial(top, i);
      }
      return (int) bound;
    }

    static long greatestDivisor(long first, long second) {
      long a = first;
      long b = second;
      for (int i = 0; i < MOST_DIVISIONS && b != 0; i++) {
        long remainder = a % b;
        a = b;
        b = remainder;
      }
      return a;
    }

    /** The greatest a for which (a over i) is at most m. */
    private static int greatestTop(int m, int i) {
      if (i == 1) {
        return m;
      }
      int top = i;
      while (top < MOST_TOP && binomial(top + 1, i) <= m) {
        top++;
      }
      return top;
    }
  }
}
