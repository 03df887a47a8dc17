/** Promises 18 to 22 and 24: resultKind, result, cause, about, is, told. */
public final class TellingTest {
  private static final int NONE = -1, UNKNOWN = -2, OUTSIDE = -3;
  private static final int INT = -1;
  private static final Due d = new Due();

  public static void main(String[] args) {
    results();
    causes();
    about();
    is();
    told();
    constants();
    d.end();
  }

  private static void results() {
    ReflectModels x = new ReflectModels();
    x.field(0, 0, INT, true, false, false);
    x.method(0, 0, 0, 0, 0, -2, 1, 0, -4);
    x.findField(0, 0, true);
    x.findMethod(0, 0, 0, 0, 0, true);
    d.result("nothing", x, 0, 0);
    x.call(1, NONE);
    d.result("call()", x, 2, -4);
    x.get(0, NONE, 0);
    d.result("get()", x, 1, 0);
    x.call(1, NONE);
    x.make(0);
    x.start(0);
    x.findField(0, 7, true);
    x.set(0, NONE);
    d.result("what is no get(), call()", x, 2, -4);
    x.get(1, NONE, 0);
    x.call(0, NONE);
    d.result("refused get(), call()", x, 2, -4);
    x.value(0, 0, 0);
    x.call(1, NONE);
    d.result("failed call()", x, 0, 0);
  }

  private static void causes() {
    ReflectModels x = new ReflectModels();
    x.method(0, 0, 0, 0, 0, INT, 1, 5, 3);
    x.method(0, 1, 0, 0, 0, INT, 1, 5, 4);
    x.method(0, 2, 0, 0, 0, INT, 1, 0, 4);
    for (int name = 0; name < 3; name++) {
      x.findMethod(0, name, 0, 0, 0, true);
    }
    d.due("cause()", x.cause(), 0);
    x.call(0, NONE);
    d.due("cause()", x.cause(), 103);
    x.call(1, NONE);
    d.due("cause()", x.cause(), 104);
    x.call(2, NONE);
    d.due("cause() behind a call that did not fail", x.cause(), 104);
    x.value(0, 1, 1);
    x.call(0, NONE);
    d.due("cause() behind another FAILURE", x.cause(), 104);
    d.due("told(5)", x.told(5), 3);
  }

  private static void about() {
    ReflectModels x = new ReflectModels();
    x.type(0, 2, NONE, false, false);
    x.type(0, 1, 1, true, true);
    d.due("about(3, 9)", x.about(3, 9), UNKNOWN);
    d.due("about(-1, 0)", x.about(-1, 0), UNKNOWN);
    d.due("about(2, 5)", x.about(2, 5), OUTSIDE);
    d.due("about(2, -1)", x.about(2, -1), OUTSIDE);
    d.due("about(2, 0)", x.about(2, 0), 1);
    d.due("about(2, 1)", x.about(2, 1), 0);
    d.due("about(2, 2)", x.about(2, 2), 1);
    d.due("about(1, 2)", x.about(1, 2), NONE);
    d.due("about(0, 1)", x.about(0, 1), NONE);
    d.due("about(2, 3)", x.about(2, 3), 0);
    x.start(2);
    d.due("about(2, 3)", x.about(2, 3), 2);
    d.due("about(0, 3)", x.about(0, 3), 1);
    x.method(2, 0, 0, 0, 0, INT, 0, 0, 0);
    x.field(2, 0, INT, false, false, false);
    d.due("about(2, 4)", x.about(2, 4), 2);
    d.due("about(1, 4)", x.about(1, 4), 0);
  }

  private static void is() {
    ReflectModels x = new ReflectModels();
    x.type(0, 2, NONE, false, false); // 1 FACE
    x.type(1, 2, NONE, false, false); // 2 FACE below 1
    x.type(0, 2, NONE, false, false); // 3 FACE
    x.type(0, 1, 2, false, false); // 4 acts as 2
    x.type(4, 0, 3, false, false); // 5 below 4, acts as 3
    x.type(5, 0, NONE, false, false); // 6 below 5
    x.make(6); // 0
    x.make(0); // 1
    x.make(5); // 2
    int[][] due = {{1, 1, 1, 1, 1, 1, 1}, {1, 0, 0, 0, 0, 0, 0}, {1, 1, 1, 1, 1, 1, 0}};
    for (int o = 0; o < due.length; o++) {
      for (int c = 0; c < 7; c++) {
        d.due("is(" + o + ", " + c + ")", x.is(o, c), due[o][c]);
      }
    }
    d.due("is(3, 0)", x.is(3, 0), UNKNOWN);
    d.due("is(-1, 0)", x.is(-1, 0), UNKNOWN);
    d.due("is(0, 7)", x.is(0, 7), UNKNOWN);
    d.due("is(0, -1)", x.is(0, -1), UNKNOWN);
  }

  private static void told() {
    ReflectModels x = new ReflectModels();
    x.type(0, 0, NONE, false, false);
    x.field(0, 0, INT, true, false, false);
    x.field(1, 0, INT, true, false, false);
    x.method(1, 0, 0, 0, 0, INT, 0, 0, 0);
    for (int i = 0; i < 4; i++) {
      x.findField(0, 0, true);
    }
    for (int i = 0; i < 5; i++) {
      x.make(0);
    }
    x.value(0, 0, 0);
    x.make(0);
    int[] due = {2, 3, 4, 5, 1, 3};
    for (int what = 0; what < due.length; what++) {
      d.due("told(" + what + ")", x.told(what), due[what]);
    }
    d.due("told(6)", x.told(6), OUTSIDE);
    d.due("told(-1)", x.told(-1), OUTSIDE);
    x.start(1);
    d.due("told(5) stays", x.told(5), 3);
  }

  private static void constants() {
    d.due("NONE", ReflectModels.NONE, -1);
    d.due("UNKNOWN", ReflectModels.UNKNOWN, -2);
    d.due("OUTSIDE", ReflectModels.OUTSIDE, -3);
    d.due("STATE", ReflectModels.STATE, -4);
    d.due("FULL", ReflectModels.FULL, -5);
  }
}
