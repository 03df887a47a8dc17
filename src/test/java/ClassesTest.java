/** Promises 1 to 3: a new object, type, constants. */
public final class ClassesTest {
  private static final int NONE = -1, UNKNOWN = -2, OUTSIDE = -3, STATE = -4, FULL = -5;
  private static final Due d = new Due();

  public static void main(String[] args) {
    newObject();
    ordinaryTypes();
    refusedTypes();
    aboveAndFace();
    fullOfTypes();
    constants();
    constantsOfStarted();
    d.end();
  }

  private static void newObject() {
    ReflectModels x = new ReflectModels();
    d.due("new told(0)", x.told(0), 1);
    for (int what = 1; what <= 5; what++) {
      d.due("new told(" + what + ")", x.told(what), 0);
    }
    d.due("new about(0, 0)", x.about(0, 0), 0);
    d.due("new about(0, 1)", x.about(0, 1), NONE);
    d.due("new about(0, 2)", x.about(0, 2), NONE);
    d.due("new about(0, 3)", x.about(0, 3), 0);
    d.due("new about(0, 4)", x.about(0, 4), 0);
    d.result("new", x, 0, 0);
    d.due("new cause()", x.cause(), 0);
    d.due("new caller(0)", x.caller(0), 0);
  }

  private static void ordinaryTypes() {
    ReflectModels x = new ReflectModels();
    d.due("face", x.type(0, 2, NONE, false, false), 1);
    d.due("face below a face", x.type(1, 2, NONE, false, false), 2);
    d.due("plain with a face", x.type(0, 0, 2, false, false), 3);
    d.due("abstract below plain, with a face", x.type(3, 1, 1, true, true), 4);
    d.due("record with a face", x.type(0, 3, 1, false, false), 5);
    d.due("enumeration with a face", x.type(0, 4, 2, false, false), 6);
    d.due("plain below abstract", x.type(4, 0, NONE, false, false), 7);
    d.due("told(0)", x.told(0), 8);
    int[] sorts = {0, 2, 2, 0, 1, 3, 4, 0};
    int[] above = {NONE, 0, 1, 0, 3, 0, 0, 4};
    int[] faces = {NONE, NONE, NONE, 2, 1, 1, 2, NONE};
    for (int c = 0; c < sorts.length; c++) {
      d.due("about(" + c + ", 0)", x.about(c, 0), sorts[c]);
      d.due("about(" + c + ", 1)", x.about(c, 1), above[c]);
      d.due("about(" + c + ", 2)", x.about(c, 2), faces[c]);
      d.due("about(" + c + ", 3)", x.about(c, 3), 0);
    }
  }

  private static void refusedTypes() {
    ReflectModels x = new ReflectModels();
    d.due("above -1", x.type(-1, 0, NONE, false, false), UNKNOWN);
    d.due("above 1", x.type(1, 0, NONE, false, false), UNKNOWN);
    d.due("face 1", x.type(0, 0, 1, false, false), UNKNOWN);
    d.due("face -2", x.type(0, 0, -2, false, false), UNKNOWN);
    d.due("face beyond, sort outside", x.type(0, 9, 1, false, false), UNKNOWN);
    d.due("sort -1", x.type(0, -1, NONE, false, false), OUTSIDE);
    d.due("sort 5", x.type(0, 5, NONE, false, false), OUTSIDE);
    d.due("sort outside, face no FACE", x.type(0, 5, 0, false, false), OUTSIDE);
    d.due("least numbers", x.type(Integer.MIN_VALUE, Integer.MIN_VALUE, Integer.MIN_VALUE, true, true), UNKNOWN);
    d.due("greatest numbers", x.type(Integer.MAX_VALUE, Integer.MAX_VALUE, Integer.MAX_VALUE, true, true), UNKNOWN);
    d.due("told(0)", x.told(0), 1);
    d.due("told(5)", x.told(5), 0);
  }

  private static void aboveAndFace() {
    ReflectModels x = new ReflectModels();
    x.type(0, 2, NONE, false, false); // 1 a FACE
    x.type(0, 3, NONE, false, false); // 2 a RECORD
    x.type(0, 4, NONE, false, false); // 3 an ENUMERATION
    x.type(0, 0, NONE, false, false); // 4 PLAIN
    x.type(0, 1, NONE, false, false); // 5 ABSTRACT
    for (int sort = 0; sort <= 4; sort++) {
      d.due("below a RECORD, sort " + sort, x.type(2, sort, NONE, false, false), STATE);
      d.due("below an ENUMERATION, sort " + sort, x.type(3, sort, NONE, false, false), STATE);
    }
    for (int above : new int[] {1, 4, 5}) {
      d.due("a RECORD below " + above, x.type(above, 3, NONE, false, false), STATE);
      d.due("an ENUMERATION below " + above, x.type(above, 4, NONE, false, false), STATE);
    }
    d.due("a FACE below PLAIN", x.type(4, 2, NONE, false, false), STATE);
    d.due("a FACE below ABSTRACT", x.type(5, 2, NONE, false, false), STATE);
    for (int face : new int[] {0, 2, 3, 4, 5}) {
      d.due("acts as " + face, x.type(0, 0, face, false, false), STATE);
    }
    d.due("a FACE that acts as a FACE", x.type(0, 2, 1, false, false), STATE);
    d.due("told(0)", x.told(0), 6);
    // The document names no limit for what is ABOVE PLAIN, ABSTRACT ones but RECORDS, ENUMERATIONS.
    d.due("PLAIN below a FACE", x.type(1, 0, NONE, false, false), 6);
    d.due("ABSTRACT below a FACE", x.type(1, 1, NONE, false, false), 7);
  }

  private static void fullOfTypes() {
    ReflectModels x = new ReflectModels();
    for (int c = 1; c < 16; c++) {
      d.due("type " + c, x.type(c - 1, 0, NONE, false, false), c);
    }
    d.due("type 16", x.type(0, 0, NONE, false, false), FULL);
    d.due("STATE ahead of FULL", x.type(0, 0, 0, false, false), STATE);
    d.due("told(0)", x.told(0), 16);
    d.due("start(15)", x.start(15), 1);
    d.due("about(8, 3)", x.about(8, 3), 1);
  }

  private static void constants() {
    ReflectModels x = new ReflectModels();
    x.type(0, 4, NONE, false, false); // 1
    x.type(0, 3, NONE, false, false); // 2
    d.due("constants(3, 1)", x.constants(3, 1), UNKNOWN);
    d.due("constants(-1, 0)", x.constants(-1, 0), UNKNOWN);
    d.due("constants(1, 0)", x.constants(1, 0), OUTSIDE);
    d.due("constants(1, 5)", x.constants(1, 5), OUTSIDE);
    d.due("constants(2, 5)", x.constants(2, 5), OUTSIDE);
    d.due("constants(2, 1)", x.constants(2, 1), STATE);
    d.due("constants(0, 1)", x.constants(0, 1), STATE);
    d.due("constants(1, 4)", x.constants(1, 4), 1);
    d.due("constants(1, 4) again", x.constants(1, 4), STATE);
    d.due("constants(1, 0) behind it", x.constants(1, 0), OUTSIDE);
    d.due("none is made yet", x.told(3), 0);
    for (int i = 3; i >= 0; i--) {
      d.due("constant(1, " + i + ")", x.constant(1, i), i);
    }
    d.due("told(3)", x.told(3), 4);
    ReflectModels y = new ReflectModels();
    y.type(0, 4, NONE, false, false);
    d.due("constants(1, 1)", y.constants(1, 1), 1);
    d.due("constant(1, 0)", y.constant(1, 0), 0);
    d.due("constant(1, 1)", y.constant(1, 1), NONE);
  }

  private static void constantsOfStarted() {
    ReflectModels x = new ReflectModels();
    x.type(0, 4, NONE, false, false); // 1
    x.type(0, 4, NONE, false, true); // 2
    x.type(0, 4, NONE, false, false); // 3
    x.start(1);
    x.start(2);
    d.due("of a STARTED one", x.constants(1, 2), STATE);
    d.due("of one that FAILED", x.constants(2, 2), STATE);
    x.type(0, 0, NONE, false, false);
    x.make(4);
    d.due("where there are OBJECTS", x.constants(3, 2), 1);
  }
}
