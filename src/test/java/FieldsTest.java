/** Promises 10 to 12: value, get, set (and 18, 19 behind get). */
public final class FieldsTest {
  private static final int NONE = -1, UNKNOWN = -2, OUTSIDE = -3, STATE = -4;
  private static final int NO_LEAVE = -12, UNLIKE = -13, NOTHING = -14, FINAL = -17, START = -18, NO_DEFINITION = -19;
  private static final int INT = -1, LONG = -2;
  private static final Due d = new Due();

  public static void main(String[] args) {
    values();
    refusedValues();
    getsFirst();
    getsFirstOfTheRoot();
    getsAs();
    refusedActs();
    orderOfGetFailures();
    staticFields();
    setsByType();
    setsClasses();
    orderOfSetFailures();
    finalFields();
    recordFields();
    objectsHoldTheirOwn();
    failedGetClearsTheResult();
    d.end();
  }

  private static void values() {
    ReflectModels x = new ReflectModels();
    d.due("value(1, 0, 0)", x.value(1, 0, 0), OUTSIDE);
    d.due("value(0, 1, 5)", x.value(0, 1, 5), 1);
    d.due("value(2, 1, 5)", x.value(2, 1, 5), OUTSIDE);
    d.due("value(1, 2, ..)", x.value(1, 2, Long.MIN_VALUE), 2);
    d.due("value(2, 0, 9)", x.value(2, 0, 9), 3);
    d.due("told(4)", x.told(4), 3);
    d.due("value(3, 0, 0)", x.value(3, 0, 0), OUTSIDE);
    d.due("told(4)", x.told(4), 3);
    d.due("value(1, 1, 1)", x.value(1, 1, 1), 2);
    d.due("those behind it are gone", x.told(4), 2);
    d.due("value(0, 1, 1)", x.value(0, 1, 1), 1);
    d.due("told(4)", x.told(4), 1);
  }

  private static void refusedValues() {
    ReflectModels x = new ReflectModels();
    d.due("OBJECT 0", x.value(0, 3, 0), UNKNOWN);
    d.due("OBJECT 0 at k outside", x.value(9, 3, 0), UNKNOWN);
    d.due("k -1", x.value(-1, 0, 0), OUTSIDE);
    d.due("kind -1", x.value(0, -1, 0), OUTSIDE);
    d.due("kind 4", x.value(0, 4, 0), OUTSIDE);
    d.due("INT too great", x.value(0, 1, 2147483648L), OUTSIDE);
    d.due("INT too small", x.value(0, 1, -2147483649L), OUTSIDE);
    d.due("told(4)", x.told(4), 0);
    d.due("greatest INT", x.value(0, 1, 2147483647L), 1);
    d.due("least INT", x.value(0, 1, -2147483648L), 1);
    x = new ReflectModels();
    x.make(0);
    d.due("OBJECT 0", x.value(0, 3, 0), 1);
    d.due("OBJECT 1", x.value(0, 3, 1), UNKNOWN);
    d.due("OBJECT -1", x.value(0, 3, -1), UNKNOWN);
    d.due("OBJECT 2^32", x.value(0, 3, 1L << 32), UNKNOWN);
    d.due("NOTHING's number is not looked at", x.value(0, 0, Long.MAX_VALUE), 1);
  }

  /** Class 1 with an INT, a LONG, a class; OBJECT 0 of it; HANDLES 0, 1, 2 of these. */
  private static ReflectModels three() {
    ReflectModels x = new ReflectModels();
    x.type(0, 0, NONE, false, false);
    x.field(1, 0, INT, false, false, false);
    x.field(1, 1, LONG, false, false, false);
    x.field(1, 2, 1, false, false, false);
    x.make(1);
    x.findField(1, 0, true);
    x.findField(1, 1, true);
    x.findField(1, 2, true);
    return x;
  }

  private static void getsFirst() {
    ReflectModels x = three();
    d.due("INT", x.get(0, 0, 0), 1);
    d.result("INT", x, 1, 0);
    d.due("LONG", x.get(1, 0, 0), 1);
    d.result("LONG", x, 2, 0);
    d.due("class", x.get(2, 0, 0), 1);
    d.result("class", x, 0, 0);
  }

  private static void getsFirstOfTheRoot() {
    ReflectModels x = new ReflectModels();
    x.type(0, 0, NONE, false, false);
    x.field(1, 0, 0, false, false, false);
    x.field(1, 1, 0, true, false, false);
    x.make(1);
    x.findField(1, 0, true);
    x.findField(1, 1, true);
    d.due("of the ROOT", x.get(0, 0, 0), 1);
    d.result("of the ROOT", x, 0, 0);
    d.due("of the ROOT, STATIC", x.get(1, NONE, 0), 1);
    d.result("of the ROOT, STATIC", x, 0, 0);
  }

  private static void getsAs() {
    ReflectModels x = three();
    x.value(0, 1, 7);
    x.set(0, 0);
    x.set(1, 0);
    d.due("INT as INT", x.get(0, 0, -1), 1);
    d.result("INT as INT", x, 1, 7);
    d.due("INT as LONG", x.get(0, 0, -2), 1);
    d.result("INT as LONG", x, 2, 7);
    d.due("LONG as INT", x.get(1, 0, -1), UNLIKE);
    d.result("LONG as INT", x, 0, 0);
    d.due("LONG as LONG", x.get(1, 0, -2), 1);
    d.result("LONG as LONG", x, 2, 7);
    d.due("LONG as it is", x.get(1, 0, 0), 1);
    d.result("LONG as it is", x, 2, 7);
    d.due("class as INT", x.get(2, 0, -1), UNLIKE);
    d.due("class as LONG", x.get(2, 0, -2), UNLIKE);
    d.due("told(5)", x.told(5), 3);
  }

  private static void refusedActs() {
    ReflectModels x = three();
    x.method(1, 0, 0, 0, 0, INT, 0, 0, 0);
    d.due("get(3, 0, 0)", x.get(3, 0, 0), UNKNOWN);
    d.due("get(-1, 0, 0)", x.get(-1, 0, 0), UNKNOWN);
    d.due("get(0, 1, 9)", x.get(0, 1, 9), UNKNOWN);
    d.due("get(0, -2, 0)", x.get(0, -2, 0), UNKNOWN);
    d.due("get(0, 0, 1)", x.get(0, 0, 1), OUTSIDE);
    d.due("get(0, 0, -3)", x.get(0, 0, -3), OUTSIDE);
    d.due("set without VALUES", x.set(0, 0), STATE);
    d.due("set without VALUES, of NOTHING", x.set(0, NONE), STATE);
    x.value(0, 1, 1);
    d.due("set(3, 0)", x.set(3, 0), UNKNOWN);
    d.due("set(0, 1)", x.set(0, 1), UNKNOWN);
    d.due("set(0, -2)", x.set(0, -2), UNKNOWN);
    d.due("told(5)", x.told(5), 0);
    ReflectModels y = new ReflectModels();
    y.method(0, 0, 0, 0, 0, INT, 0, 0, 0);
    y.findMethod(0, 0, 0, 0, 0, true);
    y.value(0, 1, 1);
    d.due("get of a METHOD", y.get(0, NONE, 0), STATE);
    d.due("get of a METHOD, as outside", y.get(0, NONE, 5), OUTSIDE);
    d.due("set of a METHOD", y.set(0, NONE), STATE);
  }

  private static void orderOfGetFailures() {
    ReflectModels x = new ReflectModels();
    x.type(0, 0, NONE, false, false); // 1
    x.type(0, 0, NONE, false, true); // 2 FAILS
    x.type(1, 0, NONE, false, false); // 3 below 1
    x.field(1, 0, INT, false, false, true); // HIDDEN
    x.field(1, 1, LONG, false, false, false);
    x.field(2, 0, LONG, true, false, false);
    x.make(0);
    x.make(1);
    x.make(3);
    x.findField(1, 0, false);
    x.findField(1, 1, false);
    x.findField(2, 0, false);
    d.due("NO LEAVE ahead of UNLIKE", x.get(0, NONE, -2), NO_LEAVE);
    d.due("UNLIKE ahead of NOTHING", x.get(1, NONE, -1), UNLIKE);
    d.due("NOTHING", x.get(1, NONE, -2), NOTHING);
    d.due("told(5)", x.told(5), 4);
    d.due("not OF the class", x.get(1, 0, -2), UNLIKE);
    d.due("OF the class", x.get(1, 1, -2), 1);
    d.due("of one below", x.get(1, 2, -2), 1);
    d.due("UNLIKE ahead of START", x.get(2, NONE, -1), UNLIKE);
    d.due("not STARTED by that", x.about(2, 3), 0);
    d.due("START", x.get(2, NONE, 0), START);
    d.due("NO DEFINITION", x.get(2, 0, 0), NO_DEFINITION);
    d.due("about(2, 3)", x.about(2, 3), 2);
    x.caller(1);
    d.due("HIDDEN, from its own class", x.get(0, 1, 0), 1);
    x.caller(3);
    d.due("HIDDEN, from below", x.get(0, 1, 0), NO_LEAVE);
    x.leave(0);
    d.due("HIDDEN, with LEAVE", x.get(0, 1, 0), 1);
  }

  private static void staticFields() {
    ReflectModels x = new ReflectModels();
    x.type(0, 0, NONE, false, false); // 1
    x.type(1, 0, NONE, false, false); // 2
    x.field(1, 0, LONG, true, false, false);
    x.field(1, 1, 1, true, false, false);
    x.make(0);
    x.findField(2, 0, true);
    x.findField(1, 1, true);
    d.due("a receiver that is not there", x.get(0, 1, 0), UNKNOWN);
    d.due("FIRST", x.get(0, NONE, 0), 1);
    d.result("FIRST", x, 2, 0);
    d.due("its class is STARTED", x.about(1, 3), 1);
    d.due("that ABOVE is STARTED", x.about(0, 3), 1);
    d.due("that below is not STARTED", x.about(2, 3), 0);
    d.due("FIRST of a class", x.get(1, NONE, 0), 1);
    d.result("FIRST of a class", x, 0, 0);
    x.value(0, 2, -1);
    d.due("set", x.set(0, NONE), 1);
    d.due("a receiver does not matter", x.get(0, 0, -2), 1);
    d.result("get", x, 2, -1);
    x.value(0, 1, 8);
    d.due("set of a receiver", x.set(0, 0), 1);
    d.due("get", x.get(0, NONE, 0), 1);
    d.result("get", x, 2, 8);
    ReflectModels y = new ReflectModels();
    y.type(0, 0, NONE, false, false);
    y.field(1, 0, INT, true, false, false);
    y.findField(1, 0, true);
    y.value(0, 1, 4);
    d.due("set STARTS", y.set(0, NONE), 1);
    d.due("about(1, 3)", y.about(1, 3), 1);
  }

  private static void setsByType() {
    ReflectModels x = three();
    x.value(0, 0, 3);
    d.due("INT to NOTHING", x.set(0, 0), UNLIKE);
    d.due("LONG to NOTHING", x.set(1, 0), UNLIKE);
    d.due("class to NOTHING", x.set(2, 0), 1);
    x.value(0, 1, -5);
    d.due("INT to INT", x.set(0, 0), 1);
    d.due("LONG to INT", x.set(1, 0), 1);
    d.due("class to INT", x.set(2, 0), UNLIKE);
    d.due("get", x.get(1, 0, 0), 1);
    d.result("WIDENED", x, 2, -5);
    x.value(0, 2, Long.MAX_VALUE);
    d.due("INT to LONG", x.set(0, 0), UNLIKE);
    d.due("LONG to LONG", x.set(1, 0), 1);
    d.due("class to LONG", x.set(2, 0), UNLIKE);
    d.due("get", x.get(1, 0, 0), 1);
    d.result("LONG", x, 2, Long.MAX_VALUE);
    d.due("get", x.get(0, 0, 0), 1);
    d.result("INT stays", x, 1, -5);
    x.value(0, 3, 0);
    d.due("INT to an OBJECT", x.set(0, 0), UNLIKE);
    d.due("LONG to an OBJECT", x.set(1, 0), UNLIKE);
    d.due("class to an OBJECT", x.set(2, 0), 1);
    x.value(1, 1, 6);
    d.due("VALUE 0 alone", x.set(2, 0), 1);
    d.due("get", x.get(2, 0, 0), 1);
    d.result("OBJECT", x, 3, 0);
    x.value(0, 0, 0);
    x.set(2, 0);
    d.due("get", x.get(2, 0, 0), 1);
    d.result("NOTHING again", x, 0, 0);
  }

  private static void setsClasses() {
    ReflectModels x = new ReflectModels();
    x.type(0, 2, NONE, false, false); // 1 FACE
    x.type(1, 2, NONE, false, false); // 2 FACE below
    x.type(0, 0, 2, false, false); // 3 acts as 2
    x.type(3, 0, NONE, false, false); // 4 below 3
    x.field(3, 0, 1, false, false, false);
    x.field(3, 1, 4, false, false, false);
    x.field(3, 2, 0, false, false, false);
    x.make(3); // 0
    x.make(4); // 1
    x.make(0); // 2
    x.proxy(2, 0); // 3
    x.proxy(1, 0); // 4
    for (int name = 0; name < 3; name++) {
      x.findField(3, name, true);
    }
    int[][] fits = {{1, 1, UNLIKE, 1, 1}, {UNLIKE, 1, UNLIKE, UNLIKE, UNLIKE}, {1, 1, 1, 1, 1}};
    for (int o = 0; o < 5; o++) {
      x.value(0, 3, o);
      for (int h = 0; h < 3; h++) {
        d.due("set field " + h + " to OBJECT " + o, x.set(h, 0), fits[h][o]);
      }
    }
    d.due("get", x.get(1, 0, 0), 1);
    d.result("get", x, 3, 1);
  }

  private static void orderOfSetFailures() {
    ReflectModels x = new ReflectModels();
    x.type(0, 0, NONE, false, false); // 1
    x.type(0, 0, NONE, false, true); // 2 FAILS
    x.field(1, 0, INT, false, true, true); // HIDDEN, FINAL
    x.field(1, 1, INT, false, true, false); // FINAL
    x.field(2, 0, INT, true, true, false); // STATIC, FINAL
    x.make(0);
    x.make(1);
    x.value(0, 0, 0);
    x.findField(1, 0, false);
    x.findField(1, 1, false);
    x.findField(2, 0, false);
    d.due("NO LEAVE", x.set(0, NONE), NO_LEAVE);
    d.due("NOTHING", x.set(1, NONE), NOTHING);
    d.due("UNLIKE of the receiver", x.set(1, 0), UNLIKE);
    d.due("FINAL ahead of UNLIKE", x.set(1, 1), FINAL);
    d.due("told(5)", x.told(5), 7);
    d.due("START ahead of FINAL", x.set(2, NONE), START);
    d.due("NO DEFINITION", x.set(2, NONE), NO_DEFINITION);
    x.leave(1);
    d.due("UNLIKE", x.set(1, 1), UNLIKE);
    d.due("NOTHING, with LEAVE", x.set(1, NONE), NOTHING);
    d.due("UNLIKE of the receiver, with LEAVE", x.set(1, 0), UNLIKE);
  }

  private static void finalFields() {
    ReflectModels x = new ReflectModels();
    x.type(0, 0, NONE, true, false); // 1 SHUT
    x.field(1, 0, INT, false, true, true);
    x.field(1, 1, INT, true, true, false);
    x.field(1, 2, INT, true, false, false);
    x.make(1);
    x.findField(1, 0, false);
    x.findField(1, 1, false);
    x.findField(1, 2, false);
    x.value(0, 1, 6);
    x.caller(1);
    d.due("FINAL, its own, without LEAVE", x.set(0, 0), FINAL);
    x.leave(0);
    d.due("FINAL, with LEAVE", x.set(0, 0), 1);
    d.due("get", x.get(0, 0, 0), 1);
    d.result("get", x, 1, 6);
    d.due("STATIC FINAL", x.set(1, NONE), FINAL);
    x.leave(1);
    d.due("STATIC FINAL, with LEAVE", x.set(1, NONE), FINAL);
    d.due("get", x.get(1, NONE, 0), 1);
    d.result("get", x, 1, 0);
    d.due("STATIC", x.set(2, NONE), 1);
  }

  private static void recordFields() {
    ReflectModels x = new ReflectModels();
    x.type(0, 3, NONE, false, false);
    x.field(1, 0, LONG, false, true, false);
    x.value(0, 1, 3);
    x.make(1);
    x.findField(1, 0, false);
    d.due("a RECORD's", x.set(0, 0), FINAL);
    x.leave(0);
    d.due("a RECORD's, with LEAVE", x.set(0, 0), FINAL);
    d.due("get", x.get(0, 0, 0), 1);
    d.result("WIDENED", x, 2, 3);
  }

  private static void objectsHoldTheirOwn() {
    ReflectModels x = new ReflectModels();
    x.type(0, 0, NONE, false, false); // 1
    x.type(1, 0, NONE, false, false); // 2
    x.field(1, 0, INT, false, false, false);
    x.field(2, 0, INT, false, false, false);
    x.make(2);
    x.make(2);
    x.findField(1, 0, true);
    x.findField(2, 0, true);
    x.value(0, 1, 5);
    x.set(0, 0);
    x.value(0, 1, 6);
    x.set(1, 0);
    long[][] due = {{5, 6}, {0, 0}};
    for (int o = 0; o < 2; o++) {
      for (int h = 0; h < 2; h++) {
        x.get(h, o, 0);
        d.due("FIELD " + h + " of OBJECT " + o, x.result(), due[o][h]);
      }
    }
  }

  private static void failedGetClearsTheResult() {
    ReflectModels x = three();
    x.value(0, 1, 7);
    x.set(0, 0);
    x.get(0, 0, 0);
    x.get(9, 0, 0);
    x.get(0, 0, 9);
    d.result("refused get()", x, 1, 7);
    x.set(0, NONE);
    d.result("failed set()", x, 1, 7);
    x.get(0, NONE, 0);
    d.result("failed get()", x, 0, 0);
  }
}
