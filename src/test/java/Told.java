/** Short ways to tell classes and MEMBERS, for tests in which the rest does not matter. */
final class Told {
  static final int NONE = -1, UNKNOWN = -2, OUTSIDE = -3, STATE = -4, FULL = -5;
  static final int NO_MEMBER = -11, NO_LEAVE = -12, UNLIKE = -13, NOTHING = -14, ABSTRACT = -15;
  static final int WRAPPED = -16, FINAL = -17, START = -18, NO_DEFINITION = -19;
  static final int INT = -1, LONG = -2, VOID = -3;
  /** Marks of METHODS. */
  static final int OPEN = 0, STATIC = 1, ABSTRACT_MARK = 2, HIDDEN = 4;

  private Told() {}

  static int type(ReflectModels x, int above, int sort) {
    return x.type(above, sort, NONE, false, false);
  }

  static int acting(ReflectModels x, int above, int sort, int face) {
    return x.type(above, sort, face, false, false);
  }

  static int failing(ReflectModels x, int above, int sort) {
    return x.type(above, sort, NONE, false, true);
  }

  static int shut(ReflectModels x, int above, int sort) {
    return x.type(above, sort, NONE, true, false);
  }

  /** 1 a FACE, 2 a RECORD, 3 an ENUMERATION, 4 PLAIN, 5 ABSTRACT. */
  static ReflectModels sorts() {
    ReflectModels x = new ReflectModels();
    type(x, 0, 2);
    type(x, 0, 3);
    type(x, 0, 4);
    type(x, 0, 0);
    type(x, 0, 1);
    return x;
  }

  static int field(ReflectModels x, int c, int name, int type) {
    return x.field(c, name, type, false, false, false);
  }

  static int staticField(ReflectModels x, int c, int name, int type) {
    return x.field(c, name, type, true, false, false);
  }

  static int recordField(ReflectModels x, int c, int name, int type) {
    return x.field(c, name, type, false, true, false);
  }

  static int method(ReflectModels x, int c, int name, int gives, int marks, int body, int b, int... types) {
    int first = types.length > 0 ? types[0] : 0;
    int second = types.length > 1 ? types[1] : 0;
    return x.method(c, name, types.length, first, second, gives, marks, body, b);
  }

  /** A HANDLE of the class's own METHOD. */
  static int found(ReflectModels x, int c, int name, int... types) {
    int first = types.length > 0 ? types[0] : 0;
    int second = types.length > 1 ? types[1] : 0;
    return x.findMethod(c, name, types.length, first, second, false);
  }

  /** Tells a METHOD, and finds it. */
  static int handle(ReflectModels x, int c, int name, int gives, int marks, int body, int b, int... types) {
    method(x, c, name, gives, marks, body, b, types);
    return found(x, c, name, types);
  }
}
