/** Promises 14, 16 and 17: make, constant, start. */
public final class MakingTest {
  private static final int NONE = -1, UNKNOWN = -2, STATE = -4, FULL = -5;
  private static final int UNLIKE = -13, ABSTRACT = -15, START = -18, NO_DEFINITION = -19;
  private static final int INT = -1, LONG = -2;
  private static final Due d = new Due();

  public static void main(String[] args) {
    makesPlainOnes();
    failsToMake();
    makesRecords();
    recordsOfOddSizes();
    fullOfObjects();
    constantsBeyondFull();
    constants();
    constantsThatFail();
    starts();
    failuresGoDown();
    d.end();
  }

  private static void makesPlainOnes() {
    ReflectModels x = new ReflectModels();
    x.type(0, 1, NONE, false, false); // 1 ABSTRACT
    x.type(1, 0, NONE, false, false); // 2
    x.type(0, 2, NONE, false, false); // 3 FACE
    x.type(2, 0, 3, false, false); // 4
    d.due("the ROOT's", x.make(0), 0);
    d.due("about(0, 3)", x.about(0, 3), 1);
    d.due("about(1, 3)", x.about(1, 3), 0);
    d.due("below an ABSTRACT one", x.make(2), 1);
    d.due("about(1, 3)", x.about(1, 3), 1);
    d.due("about(2, 3)", x.about(2, 3), 1);
    d.due("acts as a FACE", x.make(4), 2);
    d.due("the FACE is not STARTED", x.about(3, 3), 0);
    d.due("told(3)", x.told(3), 3);
    d.due("class 5", x.make(5), UNKNOWN);
    d.due("class -1", x.make(-1), UNKNOWN);
    x.value(0, 0, 0);
    d.due("with VALUES", x.make(2), UNLIKE);
    d.due("told(3)", x.told(3), 3);
  }

  private static void failsToMake() {
    ReflectModels x = new ReflectModels();
    x.type(0, 1, NONE, false, true); // 1 ABSTRACT, FAILS
    x.type(0, 2, NONE, false, true); // 2 FACE, FAILS
    x.type(0, 4, NONE, false, true); // 3 ENUMERATION, FAILS
    x.type(0, 3, NONE, false, true); // 4 RECORD, FAILS
    x.type(0, 0, NONE, false, true); // 5 PLAIN, FAILS
    x.field(4, 0, INT, false, true, false);
    d.due("ABSTRACT", x.make(1), ABSTRACT);
    d.due("told(5)", x.told(5), 5);
    d.due("a FACE", x.make(2), ABSTRACT);
    d.due("an ENUMERATION", x.make(3), UNLIKE);
    d.due("a RECORD: UNLIKE ahead of START", x.make(4), UNLIKE);
    for (int c = 1; c <= 5; c++) {
      d.due("about(" + c + ", 3)", x.about(c, 3), 0);
    }
    d.due("PLAIN: START", x.make(5), START);
    d.due("PLAIN: NO DEFINITION", x.make(5), NO_DEFINITION);
    x.value(0, 1, 1);
    d.due("PLAIN: UNLIKE ahead of NO DEFINITION", x.make(5), UNLIKE);
    d.due("ABSTRACT ahead of UNLIKE", x.make(1), ABSTRACT);
    d.due("a RECORD: START", x.make(4), START);
    d.due("a RECORD: NO DEFINITION", x.make(4), NO_DEFINITION);
    d.due("told(3)", x.told(3), 0);
  }

  private static void makesRecords() {
    ReflectModels x = new ReflectModels();
    x.type(0, 0, NONE, false, false); // 1
    x.type(0, 3, NONE, false, false); // 2 RECORD
    x.field(1, 0, INT, false, false, false);
    x.field(2, 5, LONG, false, true, false);
    x.field(1, 1, 1, false, false, false);
    x.method(2, 0, 0, 0, 0, INT, 0, 0, 0);
    x.field(2, 3, 1, false, true, false);
    x.field(2, 4, INT, false, true, true);
    x.make(1); // 0
    x.make(0); // 1
    x.value(0, 1, 5);
    d.due("one of three", x.make(2), UNLIKE);
    x.value(1, 3, 0);
    d.due("two of three", x.make(2), UNLIKE);
    d.due("about(2, 3)", x.about(2, 3), 0);
    x.value(2, 1, 6);
    d.due("three", x.make(2), 2);
    d.due("about(2, 3)", x.about(2, 3), 1);
    x.value(2, 2, 6);
    d.due("LONG for INT", x.make(2), UNLIKE);
    x.value(1, 3, 1);
    x.value(2, 1, 6);
    d.due("not OF the FIELD's class", x.make(2), UNLIKE);
    x.value(1, 0, 1);
    x.value(2, 1, 8);
    d.due("NOTHING", x.make(2), 3);
    x.value(0, 0, 0);
    x.value(1, 0, 1);
    x.value(2, 1, 8);
    d.due("NOTHING for LONG", x.make(2), UNLIKE);
    int[] names = {5, 3, 4};
    long[][] due = {{2, 5, 3, 0, 1, 6}, {2, 5, 0, 0, 1, 8}};
    for (int i = 0; i < 3; i++) {
      int h = x.findField(2, names[i], false);
      x.leave(h);
      for (int o = 0; o < 2; o++) {
        d.due("get", x.get(h, o + 2, 0), 1);
        d.result("FIELD " + names[i] + " of OBJECT " + (o + 2), x, (int) due[o][2 * i], due[o][2 * i + 1]);
      }
    }
  }

  private static void recordsOfOddSizes() {
    ReflectModels x = new ReflectModels();
    x.type(0, 3, NONE, false, false); // 1 RECORD of none
    x.type(0, 3, NONE, false, false); // 2 RECORD of four
    for (int name = 0; name < 4; name++) {
      x.field(2, name, INT, false, true, false);
    }
    d.due("none of none", x.make(1), 0);
    d.due("none of four", x.make(2), UNLIKE);
    x.value(0, 1, 1);
    d.due("one of none", x.make(1), UNLIKE);
    x.value(1, 1, 1);
    x.value(2, 1, 1);
    d.due("three of four", x.make(2), UNLIKE);
  }

  private static void fullOfObjects() {
    ReflectModels x = new ReflectModels();
    x.type(0, 1, NONE, false, false); // 1
    for (int i = 0; i < 60; i++) {
      d.due("OBJECT " + i, x.make(0), i);
    }
    d.due("FULL", x.make(0), FULL);
    d.due("FULL ahead of FAILURES", x.make(1), FULL);
    d.due("UNKNOWN ahead of it", x.make(2), UNKNOWN);
    d.due("told(3)", x.told(3), 60);
    d.due("told(5)", x.told(5), 0);
  }

  private static void constantsBeyondFull() {
    ReflectModels x = new ReflectModels();
    for (int c = 1; c <= 15; c++) {
      x.type(0, 4, NONE, false, false);
      x.constants(c, 4);
    }
    d.due("four CONSTANTS first", x.constant(1, 3), 3);
    for (int i = 4; i < 60; i++) {
      d.due("OBJECT " + i, x.make(0), i);
    }
    d.due("FULL", x.make(0), FULL);
    for (int c = 2; c <= 15; c++) {
      d.due("constant(" + c + ", 3)", x.constant(c, 3), 60 + 4 * (c - 2) + 3);
    }
    d.due("told(3)", x.told(3), 116);
    d.due("FULL beyond 60", x.make(0), FULL);
    d.due("is(115, 15)", x.is(115, 15), 1);
    d.due("is(115, 14)", x.is(115, 14), 0);
    d.due("is(116, 15)", x.is(116, 15), UNKNOWN);
  }

  private static void constants() {
    ReflectModels x = new ReflectModels();
    x.type(0, 2, NONE, false, false); // 1 FACE
    x.type(0, 4, 1, false, false); // 2
    x.type(0, 4, NONE, false, false); // 3
    x.field(2, 0, INT, false, false, false);
    x.field(2, 1, INT, true, false, false);
    x.constants(2, 2);
    d.due("class 4", x.constant(4, 0), UNKNOWN);
    d.due("the ROOT", x.constant(0, 0), STATE);
    d.due("a FACE", x.constant(1, 9), STATE);
    d.due("CONSTANT -1", x.constant(2, -1), NONE);
    d.due("it is STARTED all the same", x.about(2, 3), 1);
    d.due("told(3)", x.told(3), 2);
    d.due("CONSTANT 1", x.constant(2, 1), 1);
    d.due("CONSTANT 0", x.constant(2, 0), 0);
    d.due("CONSTANT 2", x.constant(2, 2), NONE);
    d.due("CONSTANT of the greatest number", x.constant(2, Integer.MAX_VALUE), NONE);
    d.due("none are told", x.constant(3, 0), NONE);
    d.due("about(3, 3)", x.about(3, 3), 1);
    d.due("is(0, 2)", x.is(0, 2), 1);
    d.due("is(0, 1)", x.is(0, 1), 1);
    d.due("is(0, 3)", x.is(0, 3), 0);
    d.due("told(5)", x.told(5), 0);
    int h = x.findField(2, 0, true);
    x.value(0, 1, 8);
    d.due("CONSTANTS have FIELDS", x.set(h, 1), 1);
    x.get(h, 1, 0);
    d.result("of CONSTANT 1", x, 1, 8);
    x.get(h, 0, 0);
    d.result("of CONSTANT 0", x, 1, 0);
    ReflectModels y = new ReflectModels();
    y.type(0, 4, NONE, false, false);
    y.field(1, 1, INT, true, false, false);
    y.constants(1, 3);
    y.make(0);
    h = y.findField(1, 1, true);
    d.due("a STATIC FIELD STARTS it", y.get(h, NONE, 0), 1);
    d.due("told(3)", y.told(3), 4);
    d.due("constant(1, 0)", y.constant(1, 0), 1);
    d.due("start(1)", y.start(1), 1);
    d.due("they are made once", y.told(3), 4);
  }

  private static void constantsThatFail() {
    ReflectModels x = new ReflectModels();
    x.type(0, 4, NONE, false, true);
    x.constants(1, 2);
    d.due("START", x.constant(1, 7), START);
    d.due("NO DEFINITION", x.constant(1, 0), NO_DEFINITION);
    d.due("none are made", x.told(3), 0);
    d.due("told(5)", x.told(5), 9);
  }

  private static void starts() {
    ReflectModels x = new ReflectModels();
    x.type(0, 2, NONE, false, true); // 1 FACE, FAILS
    x.type(0, 1, 1, false, false); // 2 acts as 1
    x.type(2, 0, NONE, false, false); // 3
    x.type(2, 0, NONE, false, false); // 4
    d.due("class 5", x.start(5), UNKNOWN);
    d.due("class -1", x.start(-1), UNKNOWN);
    d.due("start(3)", x.start(3), 1);
    int[] states = {1, 0, 1, 1, 0};
    for (int c = 0; c < states.length; c++) {
      d.due("about(" + c + ", 3)", x.about(c, 3), states[c]);
    }
    d.due("start(3) again", x.start(3), 1);
    d.due("start(0)", x.start(0), 1);
    d.due("start(1)", x.start(1), START);
    d.due("told(5)", x.told(5), 8);
    d.due("start(1) again", x.start(1), NO_DEFINITION);
    d.due("told(5)", x.told(5), 9);
    d.due("those that act as it are untouched", x.start(4), 1);
    d.due("told(5) stays", x.told(5), 9);
  }

  private static void failuresGoDown() {
    ReflectModels x = new ReflectModels();
    x.type(0, 0, NONE, false, false); // 1
    x.type(1, 0, NONE, false, true); // 2 FAILS
    x.type(2, 0, NONE, false, true); // 3 FAILS, too
    x.type(3, 0, NONE, false, false); // 4
    x.type(2, 0, NONE, false, false); // 5
    d.due("start(4)", x.start(4), START);
    int[] states = {1, 1, 2, 2, 2, 0};
    for (int c = 0; c < states.length; c++) {
      d.due("about(" + c + ", 3)", x.about(c, 3), states[c]);
    }
    d.due("start(5)", x.start(5), NO_DEFINITION);
    d.due("about(5, 3)", x.about(5, 3), 2);
    d.due("start(4)", x.start(4), NO_DEFINITION);
    d.due("start(1)", x.start(1), 1);
    x.type(0, 2, NONE, false, true); // 6 FACE, FAILS
    x.type(6, 2, NONE, false, false); // 7 FACE below 6
    d.due("start(7)", x.start(7), START);
    d.due("about(7, 3)", x.about(7, 3), 2);
    d.due("about(6, 3)", x.about(6, 3), 2);
  }
}
