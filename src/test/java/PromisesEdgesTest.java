/** The sentences of promises 1 to 24 that name a boundary case or a refused call: a test for each of them. */
public final class PromisesEdgesTest {
  private static final int NONE = Told.NONE, UNKNOWN = Told.UNKNOWN, OUTSIDE = Told.OUTSIDE, STATE = Told.STATE;
  private static final int FULL = Told.FULL, NO_MEMBER = Told.NO_MEMBER, NO_LEAVE = Told.NO_LEAVE, UNLIKE = Told.UNLIKE;
  private static final int NOTHING = Told.NOTHING, ABSTRACT = Told.ABSTRACT, START = Told.START;
  private static final int INT = Told.INT, LONG = Told.LONG, VOID = Told.VOID;
  private static final int OPEN = Told.OPEN, STATIC = Told.STATIC, ABSTRACT_MARK = Told.ABSTRACT_MARK, HIDDEN = Told.HIDDEN;
  private static final int LEAST = Integer.MIN_VALUE, GREATEST = Integer.MAX_VALUE;
  private static final Due d = new Due();

  public static void main(String[] args) {
    newObject();
    type();
    constants();
    constantsToldOnce();
    constantsOfOthers();
    field();
    fieldWhereThereAreObjects();
    method();
    methodOfNTypes();
    methodMarks();
    methodWhereThereAreObjects();
    caller();
    findOwnField();
    findFieldUp();
    findFieldRefused();
    findOwnMethod();
    findMethodUp();
    findMethodOfFaces();
    findMethodRefused();
    fullBehindTheFailure();
    leave();
    value();
    valuesBehindIt();
    valueRefused();
    getOfAnObject();
    getRefused();
    set();
    call();
    make();
    proxy();
    constant();
    start();
    resultKind();
    resultOfRefused();
    cause();
    about();
    is();
    handle();
    told();
    d.end();
  }

  private static void newObject() {
    d.sentence("A new object: The ROOT; VALUES none");
    ReflectModels x = new ReflectModels();
    int[] told = {1, 0, 0, 0, 0, 0};
    for (int what = 0; what < told.length; what++) {
      d.due("told(" + what + ")", x.told(what), told[what]);
    }
    int[] about = {0, NONE, NONE, 0, 0};
    for (int what = 0; what < about.length; what++) {
      d.due("about(0, " + what + ")", x.about(0, what), about[what]);
    }
    d.due("about(1, 0)", x.about(1, 0), UNKNOWN);
    d.due("leave(0)", x.leave(0), UNKNOWN);
    d.due("is(0, 0)", x.is(0, 0), UNKNOWN);
    d.due("VALUES none: the ROOT's is made", x.make(0), 0);
  }

  // ---- what there is

  private static void type() {
    d.sentence("type: UNKNOWN (above, face; NONE: it ACTS as none); OUTSIDE: the SORT");
    ReflectModels x = Told.sorts();
    for (int c : new int[] {6, 16, -2, LEAST, GREATEST}) {
      d.due("above " + c, Told.acting(x, c, 0, 1), UNKNOWN);
      d.due("face " + c, Told.acting(x, 0, 0, c), UNKNOWN);
      d.due("face " + c + " of a FACE", Told.acting(x, 0, 2, c), UNKNOWN);
    }
    d.due("above NONE", Told.acting(x, NONE, 0, 1), UNKNOWN);
    d.due("face NONE", Told.acting(x, 0, 0, NONE), 6);
    d.due("about(6, 2)", x.about(6, 2), NONE);
    for (int sort : new int[] {-1, 5, LEAST, GREATEST}) {
      d.due("SORT " + sort, Told.acting(x, 0, sort, NONE), OUTSIDE);
    }
    d.due("told(0)", x.told(0), 7);
  }

  private static void constants() {
    d.sentence("constants: So many CONSTANTS (1 to 4)");
    for (int n : new int[] {0, 1, 4, 5, -1, LEAST, GREATEST}) {
      ReflectModels x = new ReflectModels();
      Told.type(x, 0, 4);
      boolean inside = n >= 1 && n <= 4;
      d.due("constants(1, " + n + ")", x.constants(1, n), inside ? 1 : OUTSIDE);
      d.due("constant(1, 0)", x.constant(1, 0), inside ? 0 : NONE);
      d.due("told(3)", x.told(3), inside ? n : 0);
      d.due("constant(1, " + (inside ? n - 1 : 0) + ")", x.constant(1, inside ? n - 1 : 0), inside ? n - 1 : NONE);
      d.due("constant(1, " + n + ")", x.constant(1, n), NONE);
    }
  }

  private static void constantsToldOnce() {
    d.sentence("constants: told once: 1 .. STATE: it .. has them, or was STARTED");
    ReflectModels x = new ReflectModels();
    Told.type(x, 0, 4); // 1
    Told.type(x, 0, 4); // 2
    Told.failing(x, 0, 4); // 3
    Told.type(x, 0, 4); // 4
    d.due("once", x.constants(1, 2), 1);
    d.due("twice", x.constants(1, 2), STATE);
    d.due("twice, as many as another", x.constants(1, 3), STATE);
    x.start(2);
    d.due("of a STARTED one", x.constants(2, 1), STATE);
    x.start(3);
    d.due("of one whose START FAILED", x.constants(3, 1), STATE);
    d.due("of another one", x.constants(4, 1), 1);
    x.start(1);
    d.due("behind its START", x.constants(1, 2), STATE);
    d.due("told(3)", x.told(3), 2);
  }

  private static void constantsOfOthers() {
    d.sentence("constants: UNKNOWN; OUTSIDE; STATE: it is none");
    ReflectModels x = Told.sorts();
    for (int c : new int[] {0, 1, 2, 4, 5}) {
      d.due("of class " + c, x.constants(c, 1), STATE);
      d.due("OUTSIDE ahead of it, of class " + c, x.constants(c, 5), OUTSIDE);
    }
    for (int c : new int[] {6, -1, LEAST, GREATEST}) {
      d.due("of class " + c, x.constants(c, 1), UNKNOWN);
      d.due("ahead of OUTSIDE, of class " + c, x.constants(c, 0), UNKNOWN);
    }
  }

  private static void field() {
    d.sentence("field: UNKNOWN: c, a class as TYPE; OUTSIDE: the name, a TYPE; STATE: it is there, may not be so");
    ReflectModels x = Told.sorts();
    for (int c : new int[] {6, 16, -1, LEAST, GREATEST}) {
      d.due("class " + c, Told.field(x, c, 0, INT), UNKNOWN);
    }
    for (int type : new int[] {6, 16, GREATEST}) {
      d.due("TYPE " + type, Told.field(x, 4, 0, type), UNKNOWN);
    }
    for (int type : new int[] {VOID, -4, LEAST}) {
      d.due("TYPE " + type, Told.field(x, 4, 0, type), OUTSIDE);
    }
    for (int name : new int[] {-1, 20, LEAST, GREATEST}) {
      d.due("name " + name, Told.field(x, 4, name, INT), OUTSIDE);
    }
    d.due("as told", Told.field(x, 4, 0, INT), 0);
    d.due("it is there", Told.field(x, 4, 0, INT), STATE);
    d.due("may not be so", Told.field(x, 0, 0, INT), STATE);
    d.due("told(1)", x.told(1), 1);
  }

  private static void fieldWhereThereAreObjects() {
    d.sentence("field: STATE: .. there are OBJECTS");
    ReflectModels x = Told.sorts();
    x.constants(3, 1);
    d.due("where there are none", Told.field(x, 4, 0, INT), 0);
    x.start(4);
    d.due("behind a START", Told.field(x, 4, 1, INT), 1);
    x.make(1);
    d.due("behind a make() that failed", Told.field(x, 4, 2, INT), 2);
    x.start(3);
    d.due("behind a CONSTANT", Told.field(x, 4, 3, INT), STATE);
    d.due("of a class without OBJECTS", Told.staticField(x, 1, 3, INT), STATE);
    ReflectModels y = Told.sorts();
    y.make(4);
    d.due("behind make()", Told.field(y, 4, 0, INT), STATE);
    ReflectModels z = Told.sorts();
    z.proxy(1, 0);
    d.due("behind proxy()", Told.field(z, 4, 0, INT), STATE);
  }

  private static void method() {
    d.sentence("method: UNKNOWN: c, a class as TYPE; OUTSIDE: the name, n, a TYPE, marks, the BODY, b of 5");
    ReflectModels x = Told.sorts();
    for (int c : new int[] {6, 16, -1, LEAST, GREATEST}) {
      d.due("class " + c, Told.method(x, c, 0, INT, OPEN, 0, 0), UNKNOWN);
    }
    for (int type : new int[] {6, 16, GREATEST}) {
      d.due("first " + type, Told.method(x, 4, 0, INT, OPEN, 0, 0, type), UNKNOWN);
      d.due("first of two " + type, Told.method(x, 4, 0, INT, OPEN, 0, 0, type, INT), UNKNOWN);
      d.due("second " + type, Told.method(x, 4, 0, INT, OPEN, 0, 0, INT, type), UNKNOWN);
      d.due("gives " + type, Told.method(x, 4, 0, type, OPEN, 0, 0), UNKNOWN);
    }
    for (int type : new int[] {VOID, -4, LEAST}) {
      d.due("first " + type, Told.method(x, 4, 0, INT, OPEN, 0, 0, type), OUTSIDE);
      d.due("second " + type, Told.method(x, 4, 0, INT, OPEN, 0, 0, INT, type), OUTSIDE);
    }
    for (int gives : new int[] {-4, -5, LEAST}) {
      d.due("gives " + gives, Told.method(x, 4, 0, gives, OPEN, 0, 0), OUTSIDE);
    }
    for (int number : new int[] {-1, LEAST, GREATEST}) {
      d.due("name " + number, Told.method(x, 4, number, INT, OPEN, 0, 0), OUTSIDE);
      d.due("n " + number, x.method(4, 0, number, INT, INT, INT, OPEN, 0, 0), OUTSIDE);
      d.due("marks " + number, Told.method(x, 4, 0, INT, number, 0, 0), OUTSIDE);
      d.due("BODY " + number, Told.method(x, 4, 0, INT, OPEN, number, 0), OUTSIDE);
      d.due("b of 5 " + number, Told.method(x, 4, 0, INT, OPEN, 5, number), OUTSIDE);
    }
    d.due("name 20", Told.method(x, 4, 20, INT, OPEN, 0, 0), OUTSIDE);
    d.due("n 3", x.method(4, 0, 3, INT, INT, INT, OPEN, 0, 0), OUTSIDE);
    d.due("BODY 8", Told.method(x, 4, 0, INT, OPEN, 8, 0), OUTSIDE);
    d.due("b of 5 100", Told.method(x, 4, 0, INT, OPEN, 5, 100), OUTSIDE);
    d.due("told(1)", x.told(1), 0);
  }

  private static void methodOfNTypes() {
    d.sentence("method: A METHOD of n TYPES (0 to 2; others are not looked at)");
    ReflectModels x = Told.sorts();
    int told = 0;
    for (int other : new int[] {VOID, -4, 6, 16, LEAST, GREATEST}) {
      d.due("none, others " + other, x.method(4, told, 0, other, other, INT, OPEN, 0, 0), told++);
      d.due("one, the other " + other, x.method(4, told, 1, INT, other, INT, OPEN, 0, 0), told++);
    }
    d.due("none again", x.method(4, 0, 0, INT, LONG, INT, OPEN, 0, 0), STATE);
    d.due("one again", x.method(4, 1, 1, INT, LONG, INT, OPEN, 0, 0), STATE);
    d.due("found by none", x.findMethod(4, 0, 0, 99, -99, false), 0);
    d.due("found by one", x.findMethod(4, 1, 1, INT, 99, true), 1);
    d.due("not found by two", x.findMethod(4, 1, 2, INT, INT, true), NO_MEMBER);
  }

  private static void methodMarks() {
    d.sentence("method: marks 1 STATIC, 2 ABSTRACT, 4 HIDDEN; OUTSIDE: marks (also ABSTRACT with another one)");
    int[] due = {0, 1, 2, OUTSIDE, 3, 4, OUTSIDE, OUTSIDE, OUTSIDE};
    ReflectModels x = Told.sorts();
    for (int marks = 0; marks <= 8; marks++) {
      d.due("marks " + marks, Told.method(x, 5, marks, INT, marks, 0, 0), due[marks]);
    }
    for (int marks : new int[] {-1, -2, 9, 16, 1 << 30, LEAST, GREATEST}) {
      d.due("marks " + marks, Told.method(x, 5, 10, INT, marks, 0, 0), OUTSIDE);
    }
    Told.type(x, 5, 0); // 6
    int[] names = {0, 1, 2, 4, 5};
    for (int name : names) {
      Told.found(x, 5, name);
    }
    x.make(6);
    int[] mayUse = {1, 1, 1, 0, 0};
    int[] ofNothing = {NOTHING, 1, NOTHING, NOTHING, 1};
    for (int h = 0; h < names.length; h++) {
      d.due("HIDDEN or not, marks " + names[h], x.handle(h, 2), mayUse[h]);
      x.leave(h);
      d.due("STATIC or not, marks " + names[h], x.call(h, NONE), ofNothing[h]);
    }
    d.wrapped("ABSTRACT", x, x.call(2, 0), 6);
    d.due("not ABSTRACT", x.call(0, 0), 1);
  }

  private static void methodWhereThereAreObjects() {
    d.sentence("method: STATE: as told, it is there, there are OBJECTS");
    ReflectModels x = Told.sorts();
    x.constants(3, 1);
    d.due("where there are none", Told.method(x, 4, 0, INT, OPEN, 0, 0), 0);
    d.due("it is there", Told.method(x, 4, 0, INT, OPEN, 0, 0), STATE);
    x.start(4);
    d.due("behind a START", Told.method(x, 4, 1, INT, OPEN, 0, 0), 1);
    x.start(3);
    d.due("behind a CONSTANT", Told.method(x, 4, 2, INT, OPEN, 0, 0), STATE);
    d.due("a STATIC one of a class without OBJECTS", Told.method(x, 1, 2, INT, STATIC, 0, 0), STATE);
    ReflectModels y = Told.sorts();
    y.make(0);
    d.due("behind make()", Told.method(y, 4, 0, INT, OPEN, 0, 0), STATE);
    ReflectModels z = Told.sorts();
    z.proxy(1, 0);
    d.due("behind proxy()", Told.method(z, 4, 0, INT, OPEN, 0, 0), STATE);
  }

  // ---- looking

  private static void caller() {
    d.sentence("caller: THE CALLER: what it was. UNKNOWN");
    ReflectModels x = Told.sorts();
    int was = 0;
    for (int c : new int[] {5, 5, 1, 2, 3, 4, 0}) {
      for (int none : new int[] {6, 16, -1, LEAST, GREATEST}) {
        d.due("caller(" + none + ")", x.caller(none), UNKNOWN);
      }
      d.due("caller(" + c + ")", x.caller(c), was);
      was = c;
    }
  }

  /** Class 1 below the ROOT, 2 below 1, 3 below 2. */
  private static ReflectModels line() {
    ReflectModels x = new ReflectModels();
    Told.type(x, 0, 0);
    Told.type(x, 1, 0);
    Told.type(x, 2, 0);
    return x;
  }

  private static void findOwnField() {
    d.sentence("findField: A HANDLE of a FIELD: the class's own (up = false)");
    ReflectModels x = line();
    Told.field(x, 2, 0, INT); // 0
    x.field(2, 1, INT, false, false, true); // 1
    Told.field(x, 1, 2, INT); // 2
    Told.method(x, 2, 3, INT, OPEN, 0, 0); // 3
    d.due("its own", x.findField(2, 0, false), 0);
    d.due("its own, HIDDEN", x.findField(2, 1, false), 1);
    d.due("of that ABOVE", x.findField(2, 2, false), NO_MEMBER);
    d.due("of that below", x.findField(1, 0, false), NO_MEMBER);
    d.due("a METHOD's name", x.findField(2, 3, false), NO_MEMBER);
    d.due("none of the name", x.findField(2, 19, false), NO_MEMBER);
    d.due("handle(0, 0)", x.handle(0, 0), 0);
    d.due("handle(1, 0)", x.handle(1, 0), 1);
    d.due("told(2)", x.told(2), 2);
  }

  private static void findFieldUp() {
    d.sentence("findField: else that of it, or of the nearest ABOVE, that is not HIDDEN");
    ReflectModels x = line();
    Told.staticField(x, 0, 0, INT); // 0
    Told.field(x, 1, 0, INT); // 1
    x.field(2, 0, INT, false, false, true); // 2
    Told.field(x, 3, 0, INT); // 3
    x.field(1, 1, INT, false, false, true); // 4
    int[] due = {0, 1, 1, 3};
    for (int c = 0; c <= 3; c++) {
      d.due("from " + c, x.findField(c, 0, true), c);
      d.due("handle(" + c + ", 0)", x.handle(c, 0), due[c]);
      d.due("HIDDEN alone, from " + c, x.findField(c, 1, true), NO_MEMBER);
    }
    x.caller(1);
    d.due("HIDDEN, from the CALLER itself", x.findField(1, 1, true), NO_MEMBER);
    ReflectModels y = new ReflectModels();
    Told.type(y, 0, 2);
    Told.acting(y, 0, 0, 1);
    Told.staticField(y, 1, 0, INT);
    d.due("of the FACE that it ACTS as", y.findField(2, 0, true), NO_MEMBER);
  }

  private static void findFieldRefused() {
    d.sentence("findField: UNKNOWN; OUTSIDE: the name; FAILURE 1");
    ReflectModels x = Told.sorts();
    for (boolean up : new boolean[] {false, true}) {
      for (int c : new int[] {6, 16, -1, LEAST, GREATEST}) {
        d.due("class " + c, x.findField(c, 0, up), UNKNOWN);
        d.due("class " + c + ", name 20", x.findField(c, 20, up), UNKNOWN);
      }
      for (int name : new int[] {-1, 20, LEAST, GREATEST}) {
        d.due("name " + name, x.findField(4, name, up), OUTSIDE);
      }
      d.due("told(5)", x.told(5), up ? 1 : 0);
      d.due("none", x.findField(4, 0, up), NO_MEMBER);
    }
    d.due("told(5)", x.told(5), 1);
  }

  private static void findOwnMethod() {
    d.sentence("findMethod: A HANDLE of a METHOD of a name and n TYPES: likewise (the class's own)");
    ReflectModels x = line();
    int[][] rows = {{}, {INT}, {LONG}, {0}, {2}, {INT, INT}, {INT, LONG}, {2, INT}};
    for (int i = 0; i < rows.length; i++) {
      Told.method(x, 2, 0, INT, i % 2 == 0 ? OPEN : HIDDEN, 0, 0, rows[i]);
    }
    Told.method(x, 1, 1, INT, OPEN, 0, 0);
    Told.field(x, 2, 2, INT);
    for (int i = 0; i < rows.length; i++) {
      d.due("TYPES " + i, Told.found(x, 2, 0, rows[i]), i);
      d.due("handle(" + i + ", 0)", x.handle(i, 0), i);
    }
    d.due("other TYPES", Told.found(x, 2, 0, 1), NO_MEMBER);
    d.due("TYPES in another order", Told.found(x, 2, 0, LONG, INT), NO_MEMBER);
    d.due("another name", Told.found(x, 2, 3), NO_MEMBER);
    d.due("of that ABOVE", Told.found(x, 2, 1), NO_MEMBER);
    d.due("of that below", Told.found(x, 1, 0), NO_MEMBER);
    d.due("a FIELD's name", Told.found(x, 2, 2), NO_MEMBER);
  }

  private static void findMethodUp() {
    d.sentence("findMethod: likewise (that of it, or of the nearest ABOVE, that is not HIDDEN)");
    ReflectModels x = line();
    Told.method(x, 0, 0, INT, OPEN, 0, 0); // 0
    Told.method(x, 1, 0, INT, STATIC, 0, 0); // 1
    Told.method(x, 2, 0, INT, HIDDEN, 0, 0); // 2
    Told.method(x, 3, 0, INT, OPEN, 0, 0); // 3
    Told.method(x, 2, 0, INT, OPEN, 0, 0, INT); // 4
    Told.method(x, 1, 1, INT, HIDDEN, 0, 0); // 5
    int[] due = {0, 1, 1, 3};
    for (int c = 0; c <= 3; c++) {
      d.due("from " + c, x.findMethod(c, 0, 0, 0, 0, true), c);
      d.due("handle(" + c + ", 0)", x.handle(c, 0), due[c]);
      d.due("HIDDEN alone, from " + c, x.findMethod(c, 1, 0, 0, 0, true), NO_MEMBER);
    }
    ReflectModels y = new ReflectModels();
    Told.type(y, 0, 1);
    Told.type(y, 1, 0);
    Told.method(y, 0, 0, INT, OPEN, 0, 0);
    Told.method(y, 1, 0, INT, ABSTRACT_MARK, 0, 0);
    d.due("an ABSTRACT one", y.findMethod(2, 0, 0, 0, 0, true), 0);
    d.due("handle(0, 0)", y.handle(0, 0), 1);
  }

  private static void findMethodOfFaces() {
    d.sentence("findMethod: behind those ABOVE the FACES that the class, then those ABOVE it, ACT as, each with those ABOVE it");
    ReflectModels x = new ReflectModels();
    Told.type(x, 0, 2); // 1 FACE
    Told.type(x, 1, 2); // 2 FACE below 1
    Told.type(x, 0, 2); // 3 FACE
    Told.type(x, 3, 2); // 4 FACE below 3
    Told.acting(x, 0, 0, 4); // 5 acts as 4
    Told.acting(x, 5, 0, 2); // 6 below 5, acts as 2
    Told.type(x, 6, 0); // 7 below 6
    int[][] owners = {{0, 5, 2, 4}, {2, 1, 4, 3}, {1, 4, 3}, {4, 3}, {3}};
    int[][] first = new int[5][8];
    for (int name = 0; name < owners.length; name++) {
      for (int i = 0; i < owners[name].length; i++) {
        int c = owners[name][i];
        int marks = c >= 1 && c <= 4 ? ABSTRACT_MARK : OPEN;
        first[name][c] = Told.method(x, c, name, INT, marks, 0, 0);
      }
    }
    Told.method(x, 2, 5, INT, STATIC | HIDDEN, 0, 0);
    int behindHidden = Told.method(x, 1, 5, INT, ABSTRACT_MARK, 0, 0);
    int[] dueOwner = {5, 2, 1, 4, 3};
    int h = 0;
    for (int from : new int[] {6, 7}) {
      for (int name = 0; name < 5; name++) {
        d.due("name " + name + " from " + from, x.findMethod(from, name, 0, 0, 0, true), h);
        d.due("handle(" + h + ", 0)", x.handle(h, 0), first[name][dueOwner[name]]);
        h++;
      }
    }
    d.due("past a HIDDEN one of a FACE", x.findMethod(6, 5, 0, 0, 0, true), h);
    d.due("its MEMBER", x.handle(h, 0), behindHidden);
    d.due("from 5, which ACTS as 4 alone", x.findMethod(5, 5, 0, 0, 0, true), NO_MEMBER);
    d.due("FACES are not its own", x.findMethod(6, 1, 0, 0, 0, false), NO_MEMBER);
  }

  private static void findMethodRefused() {
    d.sentence("findMethod: UNKNOWN; OUTSIDE: the name; FAILURE 1 (likewise)");
    ReflectModels x = Told.sorts();
    for (boolean up : new boolean[] {false, true}) {
      for (int c : new int[] {6, 16, -1, LEAST, GREATEST}) {
        d.due("class " + c, x.findMethod(c, 0, 0, 0, 0, up), UNKNOWN);
        d.due("class " + c + ", name 20", x.findMethod(c, 20, 0, 0, 0, up), UNKNOWN);
      }
      for (int name : new int[] {-1, 20, LEAST, GREATEST}) {
        d.due("name " + name, x.findMethod(4, name, 0, 0, 0, up), OUTSIDE);
      }
      for (int n : new int[] {-1, 3, LEAST, GREATEST}) {
        d.due("n " + n, x.findMethod(4, 0, n, 0, 0, up), OUTSIDE);
      }
      d.due("none", x.findMethod(4, 0, 0, 0, 0, up), NO_MEMBER);
    }
    d.due("a class as TYPE that is not there", x.findMethod(4, 0, 1, 6, 0, true), UNKNOWN);
    d.due("a TYPE that is none", x.findMethod(4, 0, 1, VOID, 0, true), OUTSIDE);
  }

  private static void fullBehindTheFailure() {
    d.sentence("findField, findMethod: FAILURE 1; FULL (behind it)");
    ReflectModels x = new ReflectModels();
    Told.staticField(x, 0, 0, INT);
    Told.method(x, 0, 0, INT, OPEN, 0, 0);
    for (int h = 0; h < 60; h++) {
      x.findField(0, 0, false);
    }
    d.due("FULL of FIELDS", x.findField(0, 0, false), FULL);
    d.due("FULL of METHODS", Told.found(x, 0, 0), FULL);
    d.due("told(5)", x.told(5), 0);
    d.due("no such FIELD", x.findField(0, 1, false), NO_MEMBER);
    d.due("no such FIELD up", x.findField(0, 1, true), NO_MEMBER);
    d.due("no such METHOD", Told.found(x, 0, 1), NO_MEMBER);
    d.due("told(5)", x.told(5), 1);
    d.due("OUTSIDE ahead of both", x.findField(0, 20, false), OUTSIDE);
    d.due("UNKNOWN ahead of both", x.findField(1, 0, false), UNKNOWN);
  }

  private static void leave() {
    d.sentence("leave: A HANDLE gets LEAVE: 1. UNKNOWN; FAILURE 2: the class of its MEMBER is SHUT, and not the CALLER");
    ReflectModels x = new ReflectModels();
    Told.type(x, 0, 0); // 1
    Told.shut(x, 1, 0); // 2 SHUT
    Told.type(x, 2, 0); // 3
    Told.field(x, 1, 0, INT);
    Told.field(x, 2, 1, INT);
    Told.field(x, 3, 2, INT);
    int above = x.findField(3, 0, true);
    int shut = x.findField(3, 1, true);
    int below = x.findField(3, 2, true);
    for (int h : new int[] {3, 60, -1, LEAST, GREATEST}) {
      d.due("leave(" + h + ")", x.leave(h), UNKNOWN);
    }
    for (int c : new int[] {0, 1, 3}) {
      x.caller(c);
      d.due("of a SHUT one, not HIDDEN, CALLER " + c, x.leave(shut), NO_LEAVE);
      d.due("handle(1, 1)", x.handle(shut, 1), 0);
    }
    x.caller(2);
    d.due("of the CALLER that is SHUT", x.leave(shut), 1);
    d.due("handle(1, 1)", x.handle(shut, 1), 1);
    x.caller(0);
    d.due("of that ABOVE a SHUT one", x.leave(above), 1);
    d.due("of that below a SHUT one", x.leave(below), 1);
    d.due("again", x.leave(below), 1);
    d.due("of the SHUT one again", x.leave(shut), NO_LEAVE);
    d.due("it has LEAVE still", x.handle(shut, 1), 1);
    ReflectModels y = new ReflectModels();
    Told.type(y, 0, 0);
    y.field(0, 0, INT, true, false, true);
    y.caller(1);
    d.due("of the ROOT, which is not SHUT", y.leave(y.findField(0, 0, false)), 1);
  }

  // ---- acts: VALUES

  private static void value() {
    d.sentence("value: VALUE k (0, 1, .., at most 3) .. OUTSIDE: k is not 0 to how many there are (and below 3)");
    ReflectModels x = new ReflectModels();
    for (int have = 0; have <= 3; have++) {
      for (int k : new int[] {-1, have + 1, 3, 4, LEAST, GREATEST}) {
        d.due("k " + k + " of " + have, x.value(k, 1, 0), OUTSIDE);
        d.due("told(4)", x.told(4), have);
      }
      if (have < 3) {
        d.due("k " + have + " of " + have, x.value(have, 1, 0), have + 1);
      }
    }
  }

  private static void valuesBehindIt() {
    d.sentence("value: those behind it are gone: how many there are");
    for (int k = 0; k <= 2; k++) {
      ReflectModels x = new ReflectModels();
      int[] h = {
        Told.handle(x, 0, 0, INT, STATIC, 0, 0), Told.handle(x, 0, 0, INT, STATIC, 0, 0, INT),
        Told.handle(x, 0, 0, INT, STATIC, 0, 0, INT, INT)};
      for (int i = 0; i <= 2; i++) {
        x.value(i, 1, i);
      }
      d.due("value(" + k + ", ..)", x.value(k, 1, 9), k + 1);
      d.due("told(4)", x.told(4), k + 1);
      for (int n = 0; n <= 2; n++) {
        d.due("call of " + n, x.call(h[n], NONE), n == k + 1 ? 1 : UNLIKE);
      }
      d.due("value(" + (k + 2) + ", ..)", x.value(k + 2, 1, 9), OUTSIDE);
    }
  }

  private static void valueRefused() {
    d.sentence("value: UNKNOWN: an OBJECT; OUTSIDE: .. kind, an INT beyond its bounds");
    ReflectModels x = new ReflectModels();
    d.due("OBJECT 0 where there is none", x.value(0, 3, 0), UNKNOWN);
    x.make(0);
    for (long o : new long[] {1, -1, 60, 1L << 32, Long.MIN_VALUE, Long.MAX_VALUE}) {
      d.due("OBJECT " + o, x.value(0, 3, o), UNKNOWN);
      d.due("OBJECT " + o + ", k outside", x.value(-1, 3, o), UNKNOWN);
    }
    d.due("OBJECT 0", x.value(0, 3, 0), 1);
    for (long v : new long[] {2147483648L, -2147483649L, 1L << 32, Long.MIN_VALUE, Long.MAX_VALUE}) {
      d.due("INT " + v, x.value(0, 1, v), OUTSIDE);
      d.due("LONG " + v, x.value(0, 2, v), 1);
      d.due("NOTHING " + v, x.value(0, 0, v), 1);
      d.due("kind 4, " + v, x.value(0, 4, v), OUTSIDE);
      d.due("kind -1, " + v, x.value(0, -1, v), OUTSIDE);
    }
    d.due("INT, the greatest", x.value(0, 1, GREATEST), 1);
    d.due("INT, the least", x.value(0, 1, LEAST), 1);
  }

  private static void getOfAnObject() {
    d.sentence("get: of an OBJECT (NONE: NOTHING; of a STATIC FIELD it must be there or NONE, and does not matter)");
    ReflectModels x = new ReflectModels();
    Told.type(x, 0, 0);
    Told.field(x, 1, 0, INT);
    Told.staticField(x, 1, 1, INT);
    int own = x.findField(1, 0, false);
    int stat = x.findField(1, 1, false);
    x.make(0);
    x.make(1);
    d.due("of NONE", x.get(own, NONE, 0), NOTHING);
    d.due("of the ROOT's", x.get(own, 0, 0), UNLIKE);
    for (int o = NONE; o <= 1; o++) {
      d.due("STATIC of " + o, x.get(stat, o, 0), 1);
    }
    for (int o : new int[] {2, 60, -2, LEAST, GREATEST}) {
      d.due("of " + o, x.get(own, o, 0), UNKNOWN);
      d.due("STATIC of " + o, x.get(stat, o, 0), UNKNOWN);
    }
  }

  private static void getRefused() {
    d.sentence("get: as -1 an INT, -2 a LONG, 0 as it is: 1 .. UNKNOWN; OUTSIDE; STATE: no FIELD; FAILURES");
    ReflectModels x = new ReflectModels();
    x.type(0, 0, NONE, false, true); // 1 FAILS
    Told.staticField(x, 0, 0, INT);
    x.field(1, 0, INT, true, false, true);
    int m = Told.handle(x, 1, 0, INT, HIDDEN, 0, 0);
    int f = x.findField(0, 0, false);
    int hidden = x.findField(1, 0, false);
    for (int as = -2; as <= 0; as++) {
      d.due("as " + as, x.get(f, NONE, as), 1);
    }
    for (int as : new int[] {-3, 1, LEAST, GREATEST}) {
      d.due("as " + as, x.get(f, NONE, as), OUTSIDE);
      d.due("as " + as + " ahead of STATE", x.get(m, NONE, as), OUTSIDE);
      d.due("as " + as + " ahead of FAILURES", x.get(hidden, NONE, as), OUTSIDE);
      d.due("as " + as + " behind UNKNOWN", x.get(f, 0, as), UNKNOWN);
    }
    for (int h : new int[] {3, 60, -1, LEAST, GREATEST}) {
      d.due("HANDLE " + h, x.get(h, NONE, 0), UNKNOWN);
    }
    d.due("no FIELD, ahead of FAILURES", x.get(m, NONE, 0), STATE);
    d.due("no FIELD, OBJECT 0", x.get(m, 0, 0), UNKNOWN);
    d.due("told(5)", x.told(5), 0);
  }

  private static void set() {
    d.sentence("set: SET to VALUE 0: 1. UNKNOWN; STATE: no FIELD, no VALUES; FAILURES");
    ReflectModels x = new ReflectModels();
    Told.type(x, 0, 0);
    x.field(1, 0, INT, false, false, true);
    Told.staticField(x, 0, 0, INT);
    int hidden = x.findField(1, 0, false);
    int f = x.findField(0, 0, false);
    int m = Told.handle(x, 1, 0, INT, HIDDEN, 0, 0);
    d.due("no VALUES", x.set(f, NONE), STATE);
    d.due("no VALUES, ahead of FAILURES", x.set(hidden, NONE), STATE);
    d.due("neither", x.set(m, NONE), STATE);
    d.due("UNKNOWN ahead of it", x.set(f, 0), UNKNOWN);
    d.due("it was not STARTED", x.about(0, 3), 0);
    x.value(0, 1, 5);
    d.due("no FIELD, ahead of FAILURES", x.set(m, NONE), STATE);
    for (int h : new int[] {3, 60, -1, LEAST, GREATEST}) {
      d.due("HANDLE " + h, x.set(h, NONE), UNKNOWN);
      d.due("OBJECT " + h, x.set(f, h == -1 ? -2 : h), UNKNOWN);
    }
    d.due("told(5)", x.told(5), 0);
    d.due("STATIC of NONE", x.set(f, NONE), 1);
    x.value(1, 1, 6);
    d.gives("VALUE 0", x, x.get(f, NONE, 0), 1, 5);
  }

  private static void call() {
    d.sentence("call: CALL with the VALUES: 1, and the RESULT. UNKNOWN; STATE: no METHOD; FAILURES");
    ReflectModels x = new ReflectModels();
    Told.type(x, 0, 0);
    x.field(1, 0, INT, false, false, true);
    int hidden = x.findField(1, 0, false);
    int m = Told.handle(x, 0, 0, INT, STATIC, 0, 8);
    d.due("no METHOD, ahead of FAILURES", x.call(hidden, NONE), STATE);
    for (int h : new int[] {2, 60, -1, LEAST, GREATEST}) {
      d.due("HANDLE " + h, x.call(h, NONE), UNKNOWN);
      d.due("OBJECT " + h, x.call(m, h == -1 ? -2 : h), UNKNOWN);
      d.due("UNKNOWN ahead of STATE", x.call(hidden, h == -1 ? -2 : h), UNKNOWN);
    }
    d.due("told(5)", x.told(5), 0);
    d.due("it was not STARTED", x.about(0, 3), 0);
    d.gives("of NONE", x, x.call(m, NONE), 1, 8);
  }

  private static void make() {
    d.sentence("make: MADE with the VALUES: the OBJECT. UNKNOWN; FULL: 60 or more; FAILURES");
    ReflectModels x = new ReflectModels();
    Told.type(x, 0, 1); // 1 ABSTRACT
    Told.failing(x, 0, 0); // 2 FAILS
    Told.type(x, 0, 4); // 3
    Told.type(x, 0, 4); // 4
    x.constants(3, 2);
    x.constants(4, 3);
    for (int c : new int[] {5, 16, -1, LEAST, GREATEST}) {
      d.due("class " + c, x.make(c), UNKNOWN);
    }
    x.start(3);
    for (int o = 2; o < 59; o++) {
      d.due("OBJECT " + o, x.make(0), o);
    }
    d.due("where there are 59: FAILURES", x.make(1), ABSTRACT);
    d.due("where there are 59", x.make(0), 59);
    for (int round = 0; round < 2; round++) {
      d.due("where there are 60 or more", x.make(0), FULL);
      d.due("ahead of ABSTRACT", x.make(1), FULL);
      d.due("ahead of START", x.make(2), FULL);
      d.due("ahead of UNLIKE", x.make(4), FULL);
      d.due("behind UNKNOWN", x.make(5), UNKNOWN);
      d.due("told(3)", x.told(3), 60 + 3 * round);
      x.start(4);
    }
    d.due("about(2, 3)", x.about(2, 3), 0);
    d.due("told(5)", x.told(5), 5);
  }

  private static void proxy() {
    d.sentence("proxy: A PROXY: the OBJECT. UNKNOWN; OUTSIDE: the HANDLER; STATE: it is no FACE; FULL");
    ReflectModels x = Told.sorts();
    x.constants(3, 3);
    for (int c : new int[] {6, 16, -1, LEAST, GREATEST}) {
      d.due("class " + c, x.proxy(c, 0), UNKNOWN);
      d.due("class " + c + ", HANDLER 4", x.proxy(c, 4), UNKNOWN);
    }
    for (int handler : new int[] {-1, 4, LEAST, GREATEST}) {
      d.due("HANDLER " + handler, x.proxy(1, handler), OUTSIDE);
      d.due("HANDLER " + handler + " ahead of STATE", x.proxy(4, handler), OUTSIDE);
    }
    for (int c : new int[] {0, 2, 3, 4, 5}) {
      d.due("class " + c, x.proxy(c, 0), STATE);
    }
    for (int handler = 0; handler <= 3; handler++) {
      d.due("HANDLER " + handler, x.proxy(1, handler), handler);
    }
    x.value(0, 1, 1);
    d.due("VALUES do not matter", x.proxy(1, 0), 4);
    for (int o = 5; o < 60; o++) {
      d.due("OBJECT " + o, x.proxy(1, 0), o);
    }
    d.due("where there are 60", x.proxy(1, 0), FULL);
    x.start(3);
    d.due("where there are 63", x.proxy(1, 0), FULL);
    d.due("STATE ahead of FULL", x.proxy(4, 0), STATE);
    d.due("OUTSIDE ahead of FULL", x.proxy(1, 4), OUTSIDE);
    d.due("UNKNOWN ahead of FULL", x.proxy(6, 0), UNKNOWN);
    d.due("told(3)", x.told(3), 63);
  }

  private static void constant() {
    d.sentence("constant: CONSTANT i (its class is STARTED): the OBJECT. UNKNOWN; STATE: no ENUMERATION; FAILURES; NONE: there is none");
    ReflectModels x = Told.sorts();
    Told.failing(x, 0, 4); // 6 FAILS
    x.constants(3, 4);
    x.constants(6, 1);
    for (int c : new int[] {7, 16, -1, LEAST, GREATEST}) {
      d.due("class " + c, x.constant(c, 0), UNKNOWN);
    }
    for (int c : new int[] {0, 1, 2, 4, 5}) {
      d.due("class " + c, x.constant(c, 0), STATE);
      d.due("it is not STARTED", x.about(c, 3), 0);
    }
    d.due("FAILURES ahead of NONE", x.constant(6, 1), START);
    x.proxy(1, 0); // 0
    for (int i : new int[] {-1, 4, LEAST, GREATEST}) {
      d.due("CONSTANT " + i, x.constant(3, i), NONE);
      d.due("its class is STARTED", x.about(3, 3), 1);
    }
    for (int i = 3; i >= 0; i--) {
      d.due("CONSTANT " + i, x.constant(3, i), 1 + i);
    }
    d.due("told(5): NONE is no FAILURE", x.told(5), 8);
  }

  private static void start() {
    d.sentence("start: STARTED: 1. UNKNOWN; FAILURES");
    ReflectModels x = Told.sorts();
    for (int c : new int[] {6, 16, -1, LEAST, GREATEST}) {
      d.due("start(" + c + ")", x.start(c), UNKNOWN);
    }
    d.due("about(0, 3)", x.about(0, 3), 0);
    for (int c = 5; c >= 0; c--) {
      d.due("start(" + c + ")", x.start(c), 1);
      d.due("about(" + c + ", 3)", x.about(c, 3), 1);
      d.due("start(" + c + ") again", x.start(c), 1);
    }
    d.due("told(5)", x.told(5), 0);
  }

  // ---- what came

  private static void resultKind() {
    d.sentence("resultKind, result: Of the RESULT of the latest get(), call() (0 at first, and where that failed; 0 of NOTHING)");
    ReflectModels x = new ReflectModels();
    Told.staticField(x, 0, 0, 0);
    int f = x.findField(0, 0, false);
    int asInt = Told.handle(x, 0, 0, INT, STATIC, 0, -4);
    int asLong = Told.handle(x, 0, 1, LONG, STATIC, 0, LEAST);
    int throwing = Told.handle(x, 0, 2, INT, STATIC, 5, 1);
    int own = Told.handle(x, 0, 3, 0, OPEN, 6, 0);
    d.result("at first", x, 0, 0);
    d.gives("an INT", x, x.call(asInt, NONE), 1, -4);
    d.gives("a LONG", x, x.call(asLong, NONE), 2, LEAST);
    d.gives("NOTHING", x, x.get(f, NONE, 0), 0, 0);
    x.make(0);
    x.make(0);
    d.gives("an OBJECT", x, x.call(own, 1), 3, 1);
    d.wrapped("WRAPPED", x, x.call(throwing, NONE), 101);
    d.gives("an OBJECT", x, x.call(own, 1), 3, 1);
    d.due("a get() that failed", x.get(f, NONE, -1), UNLIKE);
    d.result("a get() that failed", x, 0, 0);
    d.gives("an OBJECT", x, x.call(own, 0), 3, 0);
    d.due("a call() that failed", x.call(own, NONE), NOTHING);
    d.result("a call() that failed", x, 0, 0);
  }

  private static void resultOfRefused() {
    d.sentence("resultKind: .. that was not refused");
    ReflectModels x = new ReflectModels();
    Told.staticField(x, 0, 0, INT);
    int f = x.findField(0, 0, false);
    int m = Told.handle(x, 0, 0, INT, STATIC, 0, -4);
    x.call(m, NONE);
    int[] refused = {
      x.get(m, NONE, 0), x.get(9, NONE, 0), x.get(f, 0, 0), x.get(f, NONE, 1), x.call(f, NONE), x.call(9, NONE), x.call(m, 0)};
    int[] due = {STATE, UNKNOWN, UNKNOWN, OUTSIDE, STATE, UNKNOWN, UNKNOWN};
    for (int i = 0; i < due.length; i++) {
      d.due("refused " + i, refused[i], due[i]);
    }
    d.result("the refused ones", x, 1, -4);
    x.set(f, NONE);
    x.make(0);
    x.start(0);
    x.findField(0, 1, true);
    x.constant(0, 0);
    d.result("what is neither get() nor call()", x, 1, -4);
  }

  private static void cause() {
    d.sentence("cause: The CAUSE of the latest WRAPPED (0)");
    ReflectModels x = new ReflectModels();
    int one = Told.handle(x, 0, 0, INT, STATIC, 5, 1);
    int two = Told.handle(x, 0, 1, INT, STATIC, 5, 2);
    int gives = Told.handle(x, 0, 2, INT, STATIC, 0, 2);
    d.due("at first", x.cause(), 0);
    x.findField(0, 0, true);
    d.due("behind another FAILURE", x.cause(), 0);
    x.call(one, NONE);
    d.due("the first", x.cause(), 101);
    x.call(two, NONE);
    d.due("the latest", x.cause(), 102);
    x.call(gives, NONE);
    x.findField(0, 0, true);
    x.call(one, 7);
    d.due("behind others", x.cause(), 102);
  }

  private static void about() {
    d.sentence("about: 0 SORT, 1 that ABOVE (NONE of the ROOT), 2 its FACE (NONE), 3 0 not STARTED, 1 STARTED, 2 FAILED, 4 its own MEMBERS. UNKNOWN; OUTSIDE");
    ReflectModels x = Told.sorts();
    Told.acting(x, 4, 1, 1); // 6
    x.type(6, 0, 1, true, true); // 7
    Told.field(x, 6, 0, INT);
    Told.method(x, 6, 0, INT, OPEN, 0, 0);
    Told.field(x, 7, 0, INT);
    x.start(7);
    int[][] due = {
      {0, NONE, NONE, 1, 0}, {2, 0, NONE, 0, 0}, {3, 0, NONE, 0, 0}, {4, 0, NONE, 0, 0}, {0, 0, NONE, 1, 0},
      {1, 0, NONE, 0, 0}, {1, 4, 1, 1, 2}, {0, 6, 1, 2, 1}};
    for (int c = 0; c < due.length; c++) {
      for (int what = 0; what < 5; what++) {
        d.due("about(" + c + ", " + what + ")", x.about(c, what), due[c][what]);
      }
      for (int what : new int[] {-1, 5, LEAST, GREATEST}) {
        d.due("about(" + c + ", " + what + ")", x.about(c, what), OUTSIDE);
      }
    }
    for (int c : new int[] {8, 16, -1, LEAST, GREATEST}) {
      d.due("about(" + c + ", 0)", x.about(c, 0), UNKNOWN);
      d.due("about(" + c + ", 5)", x.about(c, 5), UNKNOWN);
    }
  }

  private static void is() {
    d.sentence("is: Whether an OBJECT is OF a class: 1, 0. UNKNOWN");
    ReflectModels x = Told.sorts();
    x.make(4);
    int[] due = {1, 0, 0, 0, 1, 0};
    for (int c = 0; c < due.length; c++) {
      d.due("is(0, " + c + ")", x.is(0, c), due[c]);
    }
    for (int number : new int[] {6, 60, -1, LEAST, GREATEST}) {
      d.due("is(0, " + number + ")", x.is(0, number), UNKNOWN);
      d.due("is(" + number + ", 0)", x.is(number, 0), UNKNOWN);
    }
    d.due("is(1, 0)", x.is(1, 0), UNKNOWN);
  }

  private static void handle() {
    d.sentence("handle: The MEMBER of a HANDLE (what = 0), whether it has LEAVE (1), MAY be used by the CALLER (2). UNKNOWN; OUTSIDE");
    ReflectModels x = new ReflectModels();
    Told.type(x, 0, 0);
    Told.field(x, 1, 0, INT);
    x.field(1, 1, INT, false, false, true);
    int hidden = x.findField(1, 1, false);
    int open = x.findField(1, 0, false);
    int[][] due = {{1, 0, 0}, {0, 0, 1}};
    for (int what = 0; what <= 2; what++) {
      d.due("handle(0, " + what + ")", x.handle(hidden, what), due[0][what]);
      d.due("handle(1, " + what + ")", x.handle(open, what), due[1][what]);
    }
    x.leave(hidden);
    d.due("with LEAVE: handle(0, 1)", x.handle(hidden, 1), 1);
    d.due("with LEAVE: handle(0, 2)", x.handle(hidden, 2), 1);
    for (int number : new int[] {-1, 3, LEAST, GREATEST}) {
      d.due("handle(0, " + number + ")", x.handle(0, number), OUTSIDE);
      d.due("handle(" + number + ", 0)", x.handle(number, 0), UNKNOWN);
      d.due("handle(2, " + number + ")", x.handle(2, number), UNKNOWN);
    }
  }

  private static void told() {
    d.sentence("told: How many: 0 classes, 1 MEMBERS, 2 HANDLES, 3 OBJECTS, 4 VALUES; 5 the latest FAILURE (0). OUTSIDE");
    ReflectModels x = new ReflectModels();
    Told.type(x, 0, 0);
    Told.type(x, 0, 4);
    x.constants(2, 1);
    for (int name = 0; name < 4; name++) {
      Told.staticField(x, 0, name, INT);
    }
    for (int h = 0; h < 5; h++) {
      x.findField(0, h, true);
    }
    for (int o = 0; o < 6; o++) {
      x.make(0);
    }
    x.start(2);
    x.value(0, 0, 0);
    x.value(1, 0, 0);
    int[] due = {3, 4, 4, 7, 2, 1};
    for (int what = 0; what < due.length; what++) {
      d.due("told(" + what + ")", x.told(what), due[what]);
    }
    for (int what : new int[] {-1, 6, LEAST, GREATEST}) {
      d.due("told(" + what + ")", x.told(what), OUTSIDE);
    }
    d.due("make(1)", x.make(1), UNLIKE);
    d.due("told(5)", x.told(5), 3);
    d.due("start(1)", x.start(1), 1);
    d.due("told(5) behind what does not fail", x.told(5), 3);
    d.due("leave(9)", x.leave(9), UNKNOWN);
    d.due("told(5) behind what is refused", x.told(5), 3);
  }
}
