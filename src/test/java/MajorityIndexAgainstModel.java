import java.util.Random;

/** Long runs of calls, good and wrong ones mixed, each answered by the class and by the slow model. */
public final class MajorityIndexAgainstModel {
  // With the look at each place at the end no object is used for more than 512 calls.
  private static final int CALLS = 350;
  private static int wrong = 0;

  public static void main(String[] args) {
    for (int run = 0; run < 600 && wrong < 20; run++) {
      oneRun(run);
    }
    System.out.println(wrong == 0 ? "the class and the model agree" : wrong + " answers are not as due");
    if (wrong != 0) {
      System.exit(1);
    }
  }

  private static void oneRun(int run) {
    Random random = new Random(1000 + run);
    Caller caller = new Caller(random, 1 + random.nextInt(run % 3 == 0 ? 40 : 8));
    MajorityIndex real = new MajorityIndex();
    Model model = new Model();
    int feeds = random.nextInt(45);
    for (int call = 0; call < CALLS && wrong < 20; call++) {
      int[] a = call < feeds ? caller.feed() : call == feeds ? caller.slots() : caller.any(model.row.size());
      long want = Calls.modelAnswer(model, a);
      long got = Calls.realAnswer(real, a);
      if (want != got) {
        wrong++;
        System.out.println("run " + run + ", call " + call + ": " + Calls.text(a) + " answered " + Calls.text(got)
            + ", due is " + Calls.text(want) + " with K " + model.k + " and " + model.row);
      }
    }
    sameState(run, real, model);
  }

  private static void sameState(int run, MajorityIndex real, Model model) {
    for (int i = 0; i < model.row.size(); i++) {
      if (Calls.realAnswer(real, new int[] {9, i}) != model.row.get(i)) {
        wrong++;
        System.out.println("run " + run + ": at the end place " + i + " has another value");
      }
    }
  }

  /** Makes calls: mostly such as the document answers, every so often one with something wrong. */
  private static final class Caller {
    final Random random;
    final int unlike;

    Caller(Random random, int unlike) {
      this.random = random;
      this.unlike = unlike;
    }

    int value() {
      int x = random.nextInt(60);
      if (x == 0) {
        return -32768;
      }
      if (x == 1) {
        return 32767;
      }
      return (Math.min(random.nextInt(unlike), random.nextInt(unlike)) - 2) * 7;
    }

    int maybeWrongValue() {
      int[] odd = {32768, -32769, -40000, Integer.MAX_VALUE, Integer.MIN_VALUE, 65536};
      return random.nextInt(25) == 0 ? odd[random.nextInt(odd.length)] : value();
    }

    int[] feed() {
      return new int[] {0, value() << 16 | value() & 0xffff, value() << 16 | value() & 0xffff};
    }

    int[] slots() {
      return new int[] {2, 1 + random.nextInt(6)};
    }

    int wild() {
      int[] odd = {-1, -2, Integer.MIN_VALUE, Integer.MAX_VALUE, 160, 161, 1000};
      return odd[random.nextInt(odd.length)];
    }

    int place(int n) {
      int x = random.nextInt(25);
      return x == 0 ? wild() : x == 1 ? n : n == 0 ? 0 : random.nextInt(n);
    }

    int small(int below) {
      return random.nextInt(20) == 0 ? wild() : random.nextInt(below);
    }

    int[] range(int n) {
      int x = random.nextInt(30);
      if (x == 0) {
        return new int[] {wild(), place(n)};
      }
      if (x == 1) {
        return new int[] {place(n), random.nextBoolean() ? wild() : n + 1};
      }
      if (x == 2) {
        int m = place(n);
        return new int[] {m, m};
      }
      if (x < 8 && n > 0) {
        return nodeLike(n);
      }
      int a = random.nextInt(n + 1);
      int b = x < 16 ? Math.min(n, a + 1 + random.nextInt(20)) : random.nextInt(n + 1);
      return new int[] {Math.min(a, b), Math.max(a, b)};
    }

    int[] nodeLike(int n) {
      int l = 0;
      int r = n;
      int steps = random.nextInt(10);
      for (int i = 0; i < steps && r - l > 1; i++) {
        int m = (l + r) / 2;
        if (random.nextBoolean()) {
          l = m;
        } else {
          r = m;
        }
      }
      return new int[] {l, r};
    }

    int[] share() {
      int x = random.nextInt(24);
      int[][] odd = {{0, 3}, {3, 2}, {-1, 2}, {1, 1000}, {1000, 1000}, {Integer.MIN_VALUE, 5}, {5, Integer.MAX_VALUE},
        {0, 0}};
      if (x == 0) {
        return odd[random.nextInt(odd.length)];
      }
      if (x < 8) {
        return new int[] {1, 1 + random.nextInt(8)};
      }
      if (x < 16) {
        int q = 1 + random.nextInt(12);
        return new int[] {1 + random.nextInt(q), q};
      }
      if (x == 16) {
        return new int[] {999, 999};
      }
      int q = 1 + random.nextInt(999);
      return new int[] {1 + random.nextInt(q), q};
    }

    int[] any(int n) {
      int op = random.nextInt(Calls.NAMES.length + 14);
      if (op >= Calls.NAMES.length) {
        // Reads of small shape get a second chance, so that a long row is not cut down too soon.
        op = 13 + random.nextInt(30);
      }
      if (op == 1 && random.nextInt(4) != 0 && n > 0) {
        op = 0;
      }
      int[] r = range(n);
      int[] r2 = range(n);
      int[] s = share();
      switch (op) {
        case 0: return feed();
        case 1: return new int[] {1, random.nextInt(4) == 0 ? small(n + 3) : n - random.nextInt(5)};
        case 2: return new int[] {2, small(8)};
        case 3: return new int[] {3, place(n), maybeWrongValue()};
        case 4: return new int[] {4, r[0], r[1], maybeWrongValue()};
        case 5: return new int[] {5, r[0], r[1]};
        case 6: return new int[] {6, place(n), place(n)};
        case 7: return new int[] {7, random.nextInt(5) == 0 ? n : place(n), maybeWrongValue()};
        case 8: return new int[] {8, place(n)};
        case 9: return new int[] {9, place(n)};
        case 10: return new int[] {10, maybeWrongValue(), r[0], r[1]};
        case 11: return new int[] {11, maybeWrongValue(), small(12)};
        case 12: return new int[] {12};
        case 13: return new int[] {13, r[0], r[1]};
        case 14: return nodeCall(n, r);
        case 15: return new int[] {15, r[0], r[1]};
        case 16: return new int[] {16, r[0], r[1]};
        case 17: return new int[] {17, place(n), random.nextInt(6) - 1 + random.nextInt(5), small(4)};
        case 18: return new int[] {18, place(n)};
        case 19: return new int[] {19, r[0], r[1]};
        case 20: return new int[] {20, r[0], r[1], small(6), small(3)};
        case 21: return new int[] {21, r[0], r[1], small(4)};
        case 22: return new int[] {22, r[0], r[1], small(7), small(4)};
        case 23: return new int[] {23, maybeWrongValue(), r[0], r[1]};
        case 24: return new int[] {24, r[0], r[1]};
        case 25: return new int[] {25, r[0], r[1], s[0], s[1]};
        case 26: return new int[] {26, r[0], r[1], s[0], s[1], small(4), small(3)};
        case 27: return new int[] {27, r[0], r[1], s[0], s[1]};
        case 28: return new int[] {28, r[0], r[1], s[0], s[1]};
        case 29: return new int[] {29, r[0], r[1]};
        case 30: return new int[] {30, maybeWrongValue(), r[0], r[1]};
        case 31: return new int[] {31, r[0], r[1], r2[0], r2[1], s[0], s[1]};
        case 32: return new int[] {32, r[0], r[1], r2[0], r2[1], s[0], s[1], small(3)};
        case 33: return new int[] {33, maybeWrongValue(), s[0], s[1], small(3)};
        case 34: return new int[] {34, place(n)};
        case 35: return new int[] {35, r[0], r[1]};
        case 36: return new int[] {36, r[0], r[1]};
        case 37: return new int[] {37};
        case 38: return new int[] {38, random.nextInt(2) == 0 ? small(9) : place(n), s[0], s[1], small(4)};
        case 39: return new int[] {39, maybeWrongValue(), r[0], r[1], s[0], s[1]};
        case 40: return new int[] {40, maybeWrongValue(), r[0], r[1], s[0], s[1]};
        case 41: return new int[] {41, place(n), maybeWrongValue(), r[0], r[1]};
        case 42: return new int[] {42, r[0], r[1], maybeWrongValue(), small(3)};
        default: return new int[] {43, small(8)};
      }
    }

    int[] nodeCall(int n, int[] r) {
      int[] at = n > 0 && random.nextInt(3) != 0 ? nodeLike(n) : r;
      return new int[] {14, at[0], at[1], small(7), small(3)};
    }
  }
}
