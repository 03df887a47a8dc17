/** Promises 6 to 9 and 23: caller, findField, findMethod, leave, handle. */
public final class LookingTest {
  private static final int NONE = -1, UNKNOWN = -2, OUTSIDE = -3, FULL = -5;
  private static final int NO_MEMBER = -11, NO_LEAVE = -12;
  private static final int INT = -1, LONG = -2, VOID = -3;
  private static final Due d = new Due();

  public static void main(String[] args) {
    caller();
    ownFields();
    fieldsUp();
    ownMethods();
    methodsUp();
    methodsOfFaces();
    refusedMethods();
    fullOfHandles();
    leave();
    mayBeUsed();
    d.end();
  }

  private static void caller() {
    ReflectModels x = new ReflectModels();
    x.type(0, 0, NONE, false, false);
    d.due("caller(2)", x.caller(2), UNKNOWN);
    d.due("caller(-1)", x.caller(-1), UNKNOWN);
    d.due("caller(1)", x.caller(1), 0);
    d.due("caller(2)", x.caller(2), UNKNOWN);
    d.due("caller(1)", x.caller(1), 1);
    d.due("caller(0)", x.caller(0), 1);
  }

  /** Class 1 below the ROOT, 2 below 1, 3 below 2; names 0 .. 3 told in several of them. */
  private static ReflectModels chain() {
    ReflectModels x = new ReflectModels();
    x.type(0, 0, NONE, false, false);
    x.type(1, 0, NONE, false, false);
    x.type(2, 0, NONE, false, false);
    x.field(0, 0, INT, true, false, false); // 0
    x.field(1, 0, INT, false, false, false); // 1
    x.field(2, 0, INT, false, false, true); // 2
    x.field(1, 1, INT, false, false, true); // 3
    x.field(3, 2, INT, false, false, false); // 4
    return x;
  }

  private static void ownFields() {
    ReflectModels x = chain();
    d.due("class 4", x.findField(4, 0, false), UNKNOWN);
    d.due("class 4, name outside", x.findField(4, 20, false), UNKNOWN);
    d.due("name 20", x.findField(1, 20, false), OUTSIDE);
    d.due("name -1", x.findField(1, -1, true), OUTSIDE);
    d.due("told(5)", x.told(5), 0);
    d.due("own, HIDDEN", x.findField(2, 0, false), 0);
    d.due("handle(0, 0)", x.handle(0, 0), 2);
    d.due("own", x.findField(1, 0, false), 1);
    d.due("handle(1, 0)", x.handle(1, 0), 1);
    d.due("not its own", x.findField(3, 0, false), NO_MEMBER);
    d.due("told(5)", x.told(5), 1);
    d.due("told(2)", x.told(2), 2);
    d.due("again: another HANDLE", x.findField(1, 0, false), 2);
    d.due("handle(2, 0)", x.handle(2, 0), 1);
    d.due("told(5) stays", x.told(5), 1);
  }

  private static void fieldsUp() {
    ReflectModels x = chain();
    d.due("past the HIDDEN one", x.findField(3, 0, true), 0);
    d.due("handle(0, 0)", x.handle(0, 0), 1);
    d.due("from the HIDDEN one", x.findField(2, 0, true), 1);
    d.due("handle(1, 0)", x.handle(1, 0), 1);
    d.due("a HIDDEN one alone", x.findField(1, 1, true), NO_MEMBER);
    d.due("below is not looked at", x.findField(2, 2, true), NO_MEMBER);
    d.due("the ROOT's", x.findField(0, 0, true), 2);
    d.due("handle(2, 0)", x.handle(2, 0), 0);
    d.due("its own", x.findField(3, 2, true), 3);
    d.due("handle(3, 0)", x.handle(3, 0), 4);
    d.due("none", x.findField(3, 5, true), NO_MEMBER);
    ReflectModels y = new ReflectModels();
    y.type(0, 2, NONE, false, false);
    y.type(0, 0, 1, false, false);
    y.field(1, 0, INT, true, false, false);
    d.due("a FIELD of the FACE that it acts as", y.findField(2, 0, true), NO_MEMBER);
    y.type(1, 2, NONE, false, false);
    d.due("a FIELD of the FACE ABOVE a FACE", y.findField(3, 0, true), 0);
  }

  private static void ownMethods() {
    ReflectModels x = new ReflectModels();
    x.type(0, 0, NONE, false, false);
    x.type(1, 0, NONE, false, false);
    x.field(1, 0, INT, false, false, false); // 0
    x.method(1, 0, 0, 0, 0, INT, 0, 0, 0); // 1
    x.method(1, 0, 1, INT, 0, INT, 4, 0, 0); // 2
    x.method(1, 0, 2, INT, 1, INT, 1, 0, 0); // 3
    d.due("of none", x.findMethod(1, 0, 0, 77, 77, false), 0);
    d.due("handle(0, 0)", x.handle(0, 0), 1);
    d.due("of one, HIDDEN", x.findMethod(1, 0, 1, INT, 77, false), 1);
    d.due("handle(1, 0)", x.handle(1, 0), 2);
    d.due("of two, STATIC", x.findMethod(1, 0, 2, INT, 1, false), 2);
    d.due("handle(2, 0)", x.handle(2, 0), 3);
    d.due("another first TYPE", x.findMethod(1, 0, 1, LONG, 0, false), NO_MEMBER);
    d.due("another second TYPE", x.findMethod(1, 0, 2, INT, 2, false), NO_MEMBER);
    d.due("another name", x.findMethod(1, 1, 0, 0, 0, false), NO_MEMBER);
    d.due("not its own", x.findMethod(2, 0, 0, 0, 0, false), NO_MEMBER);
    d.due("told(2)", x.told(2), 3);
  }

  private static void methodsUp() {
    ReflectModels x = new ReflectModels();
    x.type(0, 1, NONE, false, false); // 1
    x.type(1, 0, NONE, false, false); // 2
    x.method(0, 0, 0, 0, 0, INT, 0, 0, 0); // 0
    x.method(1, 0, 0, 0, 0, INT, 2, 0, 0); // 1
    x.method(2, 0, 0, 0, 0, INT, 4, 0, 0); // 2
    x.method(2, 1, 0, 0, 0, INT, 4, 0, 0); // 3
    d.due("past the HIDDEN one, an ABSTRACT one", x.findMethod(2, 0, 0, 0, 0, true), 0);
    d.due("handle(0, 0)", x.handle(0, 0), 1);
    d.due("the ROOT's", x.findMethod(0, 0, 0, 0, 0, true), 1);
    d.due("handle(1, 0)", x.handle(1, 0), 0);
    d.due("a HIDDEN one alone", x.findMethod(2, 1, 0, 0, 0, true), NO_MEMBER);
  }

  private static void methodsOfFaces() {
    ReflectModels x = new ReflectModels();
    x.type(0, 2, NONE, false, false); // 1 FACE
    x.type(1, 2, NONE, false, false); // 2 FACE below 1
    x.type(0, 2, NONE, false, false); // 3 FACE
    x.type(0, 1, 3, false, false); // 4 acts as 3
    x.type(4, 0, 2, false, false); // 5 below 4, acts as 2
    x.method(3, 0, 0, 0, 0, INT, 2, 0, 0); // 0
    x.method(1, 0, 0, 0, 0, INT, 2, 0, 0); // 1
    x.method(3, 1, 0, 0, 0, INT, 2, 0, 0); // 2
    x.method(2, 1, 0, 0, 0, INT, 5, 0, 0); // 3 STATIC, HIDDEN
    x.method(2, 2, 0, 0, 0, INT, 2, 0, 0); // 4
    x.method(0, 2, 0, 0, 0, INT, 0, 0, 0); // 5
    x.method(3, 3, 0, 0, 0, INT, 1, 0, 0); // 6 STATIC
    d.due("its own FACE's ABOVE ahead of that of one ABOVE", x.findMethod(5, 0, 0, 0, 0, true), 0);
    d.due("handle(0, 0)", x.handle(0, 0), 1);
    d.due("the FACE of one ABOVE, past a HIDDEN one", x.findMethod(5, 1, 0, 0, 0, true), 1);
    d.due("handle(1, 0)", x.handle(1, 0), 2);
    d.due("those ABOVE ahead of FACES", x.findMethod(5, 2, 0, 0, 0, true), 2);
    d.due("handle(2, 0)", x.handle(2, 0), 5);
    d.due("a FACE's STATIC one", x.findMethod(5, 3, 0, 0, 0, true), 3);
    d.due("handle(3, 0)", x.handle(3, 0), 6);
    d.due("from a FACE", x.findMethod(2, 0, 0, 0, 0, true), 4);
    d.due("handle(4, 0)", x.handle(4, 0), 1);
    d.due("FACES are not its own", x.findMethod(5, 0, 0, 0, 0, false), NO_MEMBER);
    d.due("a FACE that it does not act as", x.findMethod(4, 4, 0, 0, 0, true), NO_MEMBER);
    d.due("told(5)", x.told(5), 1);
  }

  private static void refusedMethods() {
    ReflectModels x = new ReflectModels();
    d.due("class 1", x.findMethod(1, 0, 0, 0, 0, true), UNKNOWN);
    d.due("class -1", x.findMethod(-1, 99, 99, 0, 0, true), UNKNOWN);
    d.due("first 1", x.findMethod(0, 0, 1, 1, 0, true), UNKNOWN);
    d.due("second 1", x.findMethod(0, 0, 2, 0, 1, true), UNKNOWN);
    d.due("name 20", x.findMethod(0, 20, 0, 0, 0, true), OUTSIDE);
    d.due("n 3", x.findMethod(0, 0, 3, 0, 0, true), OUTSIDE);
    d.due("n -1", x.findMethod(0, 0, -1, 0, 0, true), OUTSIDE);
    d.due("first VOID", x.findMethod(0, 0, 1, VOID, 0, true), OUTSIDE);
    d.due("second VOID", x.findMethod(0, 0, 2, 0, VOID, true), OUTSIDE);
    d.due("those behind n are not looked at", x.findMethod(0, 0, 1, 0, VOID, true), NO_MEMBER);
  }

  private static void fullOfHandles() {
    ReflectModels x = new ReflectModels();
    x.field(0, 0, INT, true, false, false);
    x.method(0, 0, 0, 0, 0, INT, 0, 0, 0);
    for (int i = 0; i < 60; i++) {
      d.due("handle " + i, i % 2 == 0 ? x.findField(0, 0, false) : x.findMethod(0, 0, 0, 0, 0, true), i);
    }
    d.due("FULL of FIELDS", x.findField(0, 0, true), FULL);
    d.due("FULL of METHODS", x.findMethod(0, 0, 0, 0, 0, false), FULL);
    d.due("told(5)", x.told(5), 0);
    d.due("FAILURE ahead of FULL", x.findField(0, 1, true), NO_MEMBER);
    d.due("FAILURE ahead of FULL", x.findMethod(0, 1, 0, 0, 0, true), NO_MEMBER);
    d.due("told(2)", x.told(2), 60);
    d.due("handle(59, 0)", x.handle(59, 0), 1);
    d.due("handle(60, 0)", x.handle(60, 0), UNKNOWN);
  }

  private static void leave() {
    ReflectModels x = new ReflectModels();
    x.type(0, 0, NONE, true, false); // 1 SHUT
    x.type(1, 0, NONE, false, false); // 2
    x.field(1, 0, INT, false, false, true);
    x.field(2, 0, INT, false, false, false);
    x.findField(1, 0, false);
    x.findField(2, 0, false);
    x.findField(1, 0, false);
    d.due("leave(3)", x.leave(3), UNKNOWN);
    d.due("leave(-1)", x.leave(-1), UNKNOWN);
    d.due("SHUT", x.leave(0), NO_LEAVE);
    d.due("told(5)", x.told(5), 2);
    d.due("handle(0, 1)", x.handle(0, 1), 0);
    d.due("below a SHUT one", x.leave(1), 1);
    d.due("handle(1, 1)", x.handle(1, 1), 1);
    x.caller(2);
    d.due("from below a SHUT one", x.leave(0), NO_LEAVE);
    x.caller(1);
    d.due("from the SHUT one itself", x.leave(0), 1);
    x.caller(0);
    d.due("it has LEAVE still", x.handle(0, 1), 1);
    d.due("SHUT for another HANDLE", x.leave(2), NO_LEAVE);
    d.due("refused again", x.leave(0), NO_LEAVE);
    d.due("it keeps its LEAVE", x.handle(0, 1), 1);
    d.due("again", x.leave(1), 1);
    ReflectModels y = new ReflectModels();
    y.type(0, 0, NONE, false, false);
    y.field(0, 0, INT, true, false, true);
    y.findField(0, 0, false);
    y.caller(1);
    d.due("the ROOT is not SHUT", y.leave(0), 1);
  }

  private static void mayBeUsed() {
    ReflectModels x = new ReflectModels();
    x.type(0, 0, NONE, false, false);
    x.type(1, 0, NONE, false, false);
    x.field(1, 0, INT, false, false, true);
    x.field(1, 1, INT, false, false, false);
    x.findField(1, 0, false);
    x.findField(1, 1, false);
    d.due("handle(2, 9)", x.handle(2, 9), UNKNOWN);
    d.due("handle(-1, 0)", x.handle(-1, 0), UNKNOWN);
    d.due("handle(0, 3)", x.handle(0, 3), OUTSIDE);
    d.due("handle(0, -1)", x.handle(0, -1), OUTSIDE);
    d.due("HIDDEN", x.handle(0, 2), 0);
    d.due("not HIDDEN", x.handle(1, 2), 1);
    d.due("not HIDDEN has no LEAVE", x.handle(1, 1), 0);
    x.caller(2);
    d.due("HIDDEN, from below", x.handle(0, 2), 0);
    x.caller(1);
    d.due("HIDDEN, its own", x.handle(0, 2), 1);
    d.due("its own has no LEAVE", x.handle(0, 1), 0);
    x.caller(0);
    x.leave(0);
    d.due("HIDDEN, with LEAVE", x.handle(0, 2), 1);
    d.due("handle(0, 1)", x.handle(0, 1), 1);
  }
}
