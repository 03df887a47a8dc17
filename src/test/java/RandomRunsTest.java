import java.util.Arrays;
import java.util.Random;

/**
 * Runs of 512 calls with arguments good and bad: none throws, the same calls answer the same,
 * and a refusal changes nothing that can be asked for.
 */
public final class RandomRunsTest {
  private static final int RUNS = 400, CALLS = 512;
  private static final int[] ODD = {
    Integer.MIN_VALUE, Integer.MIN_VALUE + 1, -4, -3, -2, -1, 0, 1, 2, 3, 15, 16, 20, 40, 60, 120, 1 << 16,
    Integer.MAX_VALUE - 1, Integer.MAX_VALUE};
  private static final Due d = new Due();
  private static final long[] seen = new long[40];

  public static void main(String[] args) {
    for (int run = 0; run < RUNS; run++) {
      long[] answers = new long[CALLS];
      play(run, answers, true);
      long[] again = new long[CALLS];
      play(run, again, false);
      d.holds("run " + run + " answers the same again", Arrays.equals(answers, again));
    }
    for (int answer = -19; answer <= -11; answer++) {
      d.holds("FAILURE " + answer + " was met", seen[-answer] > 0);
    }
    for (int answer = -5; answer <= -1; answer++) {
      d.holds("refusal " + answer + " was met", seen[-answer] > 0);
    }
    d.end();
  }

  private static void play(int run, long[] answers, boolean looking) {
    Random r = new Random(run);
    ReflectModels x = new ReflectModels();
    for (int i = 0; i < CALLS; i++) {
      // Telling comes first, acting behind it: OBJECTS bar new MEMBERS.
      int which = i < 60 ? r.nextInt(4) : r.nextInt(23);
      long[] before = looking ? picture(x) : null;
      answers[i] = act(x, r, which);
      if (looking && which < 16) {
        note(run, i, which, answers[i], before, x);
      }
    }
  }

  private static void note(int run, int i, int which, long answer, long[] before, ReflectModels x) {
    if (answer < 0 && answer > -20) {
      seen[(int) -answer]++;
    }
    if (answer <= -2 && answer >= -5) {
      d.holds("run " + run + ", call " + i + " (" + which + "): the refusal " + answer + " changes nothing",
          Arrays.equals(before, picture(x)));
    }
    if (answer <= -11) {
      d.due("told(5) in run " + run + ", call " + i, x.told(5), -10 - answer);
    }
  }

  /** All that can be asked for without a change. */
  private static long[] picture(ReflectModels x) {
    long[] p = new long[9 + 16 * 5 + 60 * 3 + 1];
    int at = 0;
    for (int what = 0; what <= 5; what++) {
      p[at++] = x.told(what);
    }
    p[at++] = x.resultKind();
    p[at++] = x.result();
    p[at++] = x.cause();
    for (int c = 0; c < 16; c++) {
      for (int what = 0; what < 5; what++) {
        p[at++] = x.about(c, what);
      }
    }
    for (int h = 0; h < 60; h++) {
      for (int what = 0; what < 3; what++) {
        p[at++] = x.handle(h, what);
      }
    }
    int caller = x.caller(0);
    x.caller(caller);
    p[at] = caller;
    return p;
  }

  private static int near(Random r, int count) {
    return r.nextInt(30) == 0 ? ODD[r.nextInt(ODD.length)] : r.nextInt(Math.max(1, count));
  }

  private static int type(Random r, int classes) {
    return r.nextInt(3) == 0 ? near(r, classes) : near(r, 2) - 2;
  }

  private static long number(Random r) {
    int pick = r.nextInt(8);
    return pick == 0 ? r.nextLong() : pick == 1 ? ODD[r.nextInt(ODD.length)] : r.nextInt(5) - 1;
  }

  private static long act(ReflectModels x, Random r, int which) {
    int classes = x.told(0);
    int receiver = near(r, x.told(3) + 1) - (r.nextInt(4) == 0 ? 1 : 0);
    int handle = near(r, x.told(2));
    switch (which) {
      case 0:
        return x.type(r.nextInt(3) == 0 ? 0 : near(r, classes), near(r, 5), r.nextInt(3) > 0 ? -1 : near(r, classes),
            r.nextInt(4) == 0, r.nextInt(6) == 0);
      case 1:
        return x.field(near(r, classes), near(r, 4), type(r, classes), r.nextBoolean(), r.nextBoolean(), r.nextInt(3) == 0);
      case 2:
        return x.method(near(r, classes), near(r, 4), near(r, 3), type(r, classes), type(r, classes),
            type(r, classes) - r.nextInt(2), near(r, 6), near(r, 8), near(r, 9));
      case 3:
        return x.constants(near(r, classes), near(r, 5));
      case 4:
        return x.caller(near(r, classes));
      case 5:
        return x.findField(near(r, classes), near(r, 4), r.nextBoolean());
      case 6:
        return x.findMethod(near(r, classes), near(r, 4), near(r, 3), type(r, classes), type(r, classes), r.nextBoolean());
      case 7:
        return x.leave(handle);
      case 8:
        int kind = near(r, 4);
        return x.value(near(r, 3), kind, kind == 3 ? near(r, x.told(3)) : number(r));
      case 9:
        return x.get(handle, receiver, -near(r, 3));
      case 10:
        return x.set(handle, receiver);
      case 11:
        return x.call(handle, receiver);
      case 12:
        return x.make(near(r, classes));
      case 13:
        return x.proxy(near(r, classes), near(r, 4));
      case 14:
        return x.constant(near(r, classes), near(r, 5));
      case 15:
        return x.start(near(r, classes));
      case 16:
        return x.resultKind();
      case 17:
        return x.result();
      case 18:
        return x.cause();
      case 19:
        return x.about(near(r, classes), near(r, 5));
      case 20:
        return x.is(receiver, near(r, classes));
      case 21:
        return x.handle(handle, near(r, 3));
      default:
        return x.told(near(r, 6));
    }
  }
}
