import java.util.ArrayList;
import java.util.List;
import java.util.Random;

/** Long runs of mixed calls, each answer compared with the plain model's. */
public final class ModelTest {
  // What later calls answer is free.
  private static final int MOST_CALLS = 512;
  private final Random random;
  private final SetFamilies real = new SetFamilies();
  private final NaiveFamilies model = new NaiveFamilies();
  private final List<String> calls = new ArrayList<>();
  private final int mostElements;
  private boolean broken = false;

  private ModelTest(long seed, int mostElements) {
    random = new Random(seed);
    this.mostElements = mostElements;
  }

  public static void main(String[] args) {
    for (int seed = 1; seed <= 400; seed++) {
      Check.about("seed " + seed);
      new ModelTest(seed, 7).run(25);
    }
    for (int seed = 1001; seed <= 1060; seed++) {
      Check.about("seed " + seed);
      new ModelTest(seed, 10).run(60);
    }
    Check.end();
  }

  private void run(int callsPerDigest) {
    for (int i = 1; calls.size() < MOST_CALLS && !broken; i++) {
      if (i % callsPerDigest == 0) {
        compare("digest()", real::digest, model::digest);
      } else {
        oneCall();
      }
    }
  }

  private void compare(String call, Check.Call ofReal, Check.Call ofModel) {
    if (calls.size() == MOST_CALLS || broken) {
      return;
    }
    calls.add(call);
    String want = Check.outcome(ofModel);
    int before = Check.wrongSoFar();
    Check.same(call + " (call " + calls.size() + ")", want, Check.outcome(ofReal));
    if (Check.wrongSoFar() > before) {
      broken = true;
      System.out.println("  after " + calls);
    }
  }

  private static long bit(boolean b) {
    return b ? 1 : 0;
  }

  /** Mostly from low to high, at times a little or far outside. */
  private int about(int low, int high) {
    int kind = random.nextInt(40);
    if (kind == 0) {
      return low - 1;
    }
    if (kind == 1) {
      return high + 1;
    }
    if (kind == 2 && random.nextInt(4) == 0) {
      return random.nextBoolean() ? Integer.MIN_VALUE : Integer.MAX_VALUE;
    }
    return low + random.nextInt(high - low + 1);
  }

  private int family() {
    return about(0, 3);
  }

  private int set() {
    return about(0, (1 << model.elements()) - 1);
  }

  private void oneCall() {
    int kind = random.nextInt(100);
    if (kind < 30) {
      change();
    } else if (kind < 50) {
      operate();
    } else if (kind < 60) {
      readText();
    } else if (kind < 64) {
      compare("undo()", real::undo, model::undo);
    } else if (kind < 65) {
      int n = about(1, mostElements);
      compare("setGround(" + n + ")", () -> real.setGround(n), () -> model.setGround(n));
    } else if (kind < 75) {
      askNumbers();
    } else {
      ask();
    }
  }

  private void change() {
    int f = family();
    int s = set();
    if (random.nextInt(5) == 0) {
      compare("remove(" + f + ", " + s + ")", () -> bit(real.remove(f, s)), () -> bit(model.remove(f, s)));
    } else {
      compare("add(" + f + ", " + s + ")", () -> bit(real.add(f, s)), () -> bit(model.add(f, s)));
    }
  }

  private void operate() {
    int f = family();
    int g = family();
    int p = family();
    int n = model.elements();
    switch (random.nextInt(6)) {
      case 0: {
        int op = about(0, 3);
        compare("combine(" + p + ", " + op + ", " + f + ", " + g + ")", () -> real.combine(p, op, f, g), () -> model.combine(p, op, f, g));
        break;
      }
      case 1: {
        int op = about(0, 9);
        compare("derive(" + p + ", " + op + ", " + f + ")", () -> real.derive(p, op, f), () -> model.derive(p, op, f));
        break;
      }
      case 2: {
        int j = about(0, n - 1);
        int i = about(0, n - 1);
        compare("compress(" + f + ", " + j + ", " + i + ")", () -> real.compress(f, j, i), () -> model.compress(f, j, i));
        break;
      }
      case 3:
        if (random.nextInt(4) == 0) {
          compare("shift(" + f + ")", () -> real.shift(f), () -> model.shift(f));
        }
        break;
      case 4: {
        int s = set();
        compare("trace(" + p + ", " + f + ", " + s + ")", () -> real.trace(p, f, s), () -> model.trace(p, f, s));
        break;
      }
      default: {
        int k = about(0, n);
        int m = about(0, Math.max(1, random.nextInt(n * n)));
        compare("segment(" + p + ", " + k + ", " + m + ")", () -> real.segment(p, k, m), () -> model.segment(p, k, m));
        break;
      }
    }
  }

  private void readText() {
    int kind = random.nextInt(10);
    if (kind < 2) {
      compare("clearText()", real::clearText, model::clearText);
      typeSets(random.nextInt(12));
    } else if (kind < 5) {
      typeSets(random.nextInt(3));
    } else if (kind < 6) {
      int value = about(0, 127);
      compare("type(" + value + ")", () -> real.type(value), () -> model.type(value));
    }
    int f = family();
    compare("read(" + f + ")", () -> real.read(f), () -> model.read(f));
  }

  private void typeSets(int sets) {
    StringBuilder text = new StringBuilder();
    for (int i = 0; i < sets; i++) {
      int s = random.nextInt(1 << model.elements());
      text.append(i > 0 || random.nextInt(3) == 0 ? "," : "").append(s == 0 ? "-" : "");
      for (int x = 0; x < 10; x++) {
        text.append((s >> x & 1) == 1 || random.nextInt(200) == 0 ? Integer.toString(x) : "");
      }
    }
    for (char c : text.toString().toCharArray()) {
      compare("type(" + (int) c + ")", () -> real.type(c), () -> model.type(c));
    }
  }

  private void askNumbers() {
    int s = about(0, 1023);
    int k = about(1, 10);
    int m = random.nextBoolean() ? about(0, 1000000) : about(0, 300);
    int r = random.nextInt(3) == 0 ? about(0, 252) : about(0, 50);
    int index = about(0, 10);
    compare("rank(" + s + ")", () -> real.rank(s), () -> model.rank(s));
    int size = random.nextInt(6) == 0 ? 0 : k;
    compare("unrank(" + size + ", " + r + ")", () -> real.unrank(size, r), () -> model.unrank(size, r));
    compare("cascade(" + m + ", " + k + ", " + index + ")", () -> real.cascade(m, k, index), () -> model.cascade(m, k, index));
    compare("shadowBound(" + m + ", " + k + ")", () -> real.shadowBound(m, k), () -> model.shadowBound(m, k));
  }

  private void ask() {
    int f = family();
    int g = family();
    int n = model.elements();
    int s = set();
    int level = about(-1, n);
    int index = about(0, 20);
    int element = about(0, n - 1);
    int property = about(0, 5);
    boolean denominator = random.nextBoolean();
    switch (random.nextInt(12)) {
      case 0: compare("has(" + f + ", " + s + ")", () -> bit(real.has(f, s)), () -> bit(model.has(f, s))); break;
      case 1: compare("size(" + f + ", " + level + ")", () -> real.size(f, level), () -> model.size(f, level)); break;
      case 2: compare("get(" + f + ", " + index + ")", () -> real.get(f, index), () -> model.get(f, index)); break;
      case 3: compare("degree(" + f + ", " + element + ")", () -> real.degree(f, element), () -> model.degree(f, element)); break;
      case 4: compare("excess(" + f + ", " + level + ")", () -> real.excess(f, level), () -> model.excess(f, level)); break;
      case 5: compare("is(" + f + ", " + property + ")", () -> bit(real.is(f, property)), () -> bit(model.is(f, property))); break;
      case 6: compare("weight(" + f + ", " + denominator + ")", () -> real.weight(f, denominator), () -> model.weight(f, denominator)); break;
      case 7: compare("dimension(" + f + ")", () -> real.dimension(f), () -> model.dimension(f)); break;
      case 8: compare("shattered(" + f + ")", () -> real.shattered(f), () -> model.shattered(f)); break;
      case 9: compare("crossing(" + f + ", " + g + ")", () -> real.crossing(f, g), () -> model.crossing(f, g)); break;
      case 10: compare("sunflower(" + f + ")", () -> real.sunflower(f), () -> model.sunflower(f)); break;
      default: compare("pairs(" + f + ", " + level + ")", () -> real.pairs(f, level), () -> model.pairs(f, level)); break;
    }
  }
}
