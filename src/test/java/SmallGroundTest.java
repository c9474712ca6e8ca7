/** All families of up to three elements, and all pairs of them, against the plain model. */
public final class SmallGroundTest {
  public static void main(String[] args) {
    for (int n = 1; n <= 3; n++) {
      int families = 1 << (1 << n);
      for (int sets = 0; sets < families; sets++) {
        Check.about("n = " + n + ", family " + Integer.toBinaryString(sets));
        oneFamily(n, sets);
      }
    }
    for (int n = 1; n <= 3; n++) {
      Check.about("pairs with n = " + n);
      allPairs(n);
    }
    Check.end();
  }

  private static void fill(SetFamilies real, NaiveFamilies model, int family, int sets, int n) {
    for (int s = 0; s < 1 << n; s++) {
      if ((sets >> s & 1) == 1) {
        real.add(family, s);
        model.add(family, s);
      }
    }
  }

  private static void oneFamily(int n, int sets) {
    SetFamilies real = new SetFamilies();
    NaiveFamilies model = new NaiveFamilies();
    real.setGround(n);
    model.setGround(n);
    fill(real, model, 0, sets, n);
    Check.due("digest()", model.digest(), real.digest());
    for (int operation = 0; operation <= 9; operation++) {
      Check.due("derive(1, " + operation + ", 0)", model.derive(1, operation, 0), real.derive(1, operation, 0));
      Check.due("digest() after derive " + operation, model.digest(), real.digest());
    }
    for (int s = 0; s < 1 << n; s++) {
      Check.due("trace(1, 0, " + s + ")", model.trace(1, 0, s), real.trace(1, 0, s));
      Check.due("digest() after trace", model.digest(), real.digest());
    }
    for (int j = 0; j < n; j++) {
      for (int i = 0; i < n; i++) {
        if (i != j) {
          Check.due("compress(0, " + j + ", " + i + ")", model.compress(0, j, i), real.compress(0, j, i));
          Check.due("digest() after compress", model.digest(), real.digest());
          model.undo();
          real.undo();
        }
      }
    }
    Check.due("shift(0)", model.shift(0), real.shift(0));
    Check.due("digest() after shift", model.digest(), real.digest());
  }

  private static void allPairs(int n) {
    int families = 1 << (1 << n);
    int stride = n == 3 ? 7 : 1;
    for (int a = 0; a < families; a += stride) {
      for (int b = 0; b < families; b += stride) {
        SetFamilies real = new SetFamilies();
        NaiveFamilies model = new NaiveFamilies();
        real.setGround(n);
        model.setGround(n);
        fill(real, model, 0, a, n);
        fill(real, model, 1, b, n);
        Check.due("crossing(0, 1) of " + a + " and " + b, model.crossing(0, 1), real.crossing(0, 1));
        for (int operation = 0; operation <= 3; operation++) {
          Check.due("combine(2, " + operation + ", 0, 1)", model.combine(2, operation, 0, 1), real.combine(2, operation, 0, 1));
          for (int s = 0; s < 1 << n; s++) {
            Check.due("has(2, " + s + ")", model.has(2, s) ? 1 : 0, real.has(2, s) ? 1 : 0);
          }
        }
      }
    }
  }
}
