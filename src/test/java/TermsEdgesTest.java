/**
 * The sentences under "What it is" and "Terms" that name a boundary case of classes, TYPES, VALUES
 * or MEMBERS: a test for each of them, just inside and just outside.
 */
public final class TermsEdgesTest {
  private static final int NONE = Told.NONE, UNKNOWN = Told.UNKNOWN, OUTSIDE = Told.OUTSIDE, STATE = Told.STATE;
  private static final int FULL = Told.FULL, UNLIKE = Told.UNLIKE, NO_LEAVE = Told.NO_LEAVE, START = Told.START;
  private static final int INT = Told.INT, LONG = Told.LONG, VOID = Told.VOID;
  private static final Due d = new Due();

  public static void main(String[] args) {
    sixteenClasses();
    theRoot();
    anEarlierOneAbove();
    fiveHundredAndTwelveCalls();
    aboveFaces();
    aboveRecords();
    aboveEnumerations();
    shutOnes();
    failingOnes();
    actingOnes();
    recordsAndEnumerationsAreAboveNone();
    typesOfFields();
    typesOfMethods();
    typesThatAreGiven();
    nothingsNumber();
    kindsOfValues();
    fitsInt();
    fitsLong();
    fitsClass();
    whatAnObjectIsOf();
    first();
    fortyMembers();
    membersInTheirOrder();
    namesOfFields();
    namesOfMethods();
    staticFields();
    recordFields();
    upToTwoTypes();
    abstractMethods();
    methodsOfFaces();
    hiddenIsNotAbstract();
    twoFieldsOfOneName();
    twoMethodsOfOneName();
    d.end();
  }

  // ---- classes

  private static void sixteenClasses() {
    d.sentence("CLASSES, numbered from 0, 16 at most");
    ReflectModels x = new ReflectModels();
    for (int c = 1; c <= 15; c++) {
      d.due("class " + c, Told.type(x, 0, c % 5), c);
    }
    d.due("told(0)", x.told(0), 16);
    d.due("about(15, 0)", x.about(15, 0), 0);
    for (int sort = 0; sort <= 4; sort++) {
      d.due("a 17th of SORT " + sort, Told.type(x, 0, sort), FULL);
    }
    d.due("told(0)", x.told(0), 16);
    d.due("about(16, 0)", x.about(16, 0), UNKNOWN);
    d.due("about(-1, 0)", x.about(-1, 0), UNKNOWN);
  }

  private static void theRoot() {
    d.sentence("0 is the ROOT, PLAIN");
    ReflectModels x = new ReflectModels();
    d.due("about(0, 0)", x.about(0, 0), 0);
    d.due("about(0, 1)", x.about(0, 1), NONE);
    d.due("about(0, 2)", x.about(0, 2), NONE);
    d.due("it is made as PLAIN ones are", x.make(0), 0);
  }

  private static void anEarlierOneAbove() {
    d.sentence("each other one has one ABOVE it (an earlier one)");
    ReflectModels x = new ReflectModels();
    d.due("itself ABOVE", Told.type(x, 1, 0), UNKNOWN);
    d.due("none ABOVE", Told.type(x, NONE, 0), UNKNOWN);
    for (int c = 1; c <= 15; c++) {
      d.due("a later one ABOVE", Told.type(x, c + 1, 0), UNKNOWN);
      d.due("the latest one ABOVE", Told.type(x, c - 1, 0), c);
      d.due("about(" + c + ", 1)", x.about(c, 1), c - 1);
    }
    x.make(15);
    for (int c = 0; c <= 15; c++) {
      d.due("is(0, " + c + ")", x.is(0, c), 1);
      d.due("about(" + c + ", 3)", x.about(c, 3), 1);
    }
  }

  private static void fiveHundredAndTwelveCalls() {
    d.sentence("An object is used for at most 512 calls after it has been made");
    ReflectModels x = new ReflectModels();
    int face = Told.type(x, 0, 2); // call 1
    int h = Told.handle(x, face, 0, INT, Told.ABSTRACT_MARK, 0, 0); // 2, 3
    int o = x.proxy(face, 0); // 4
    for (int call = 5; call <= 511; call++) {
      d.due("call " + call, x.call(h, o), 1);
    }
    d.due("call 512: result()", x.result(), 507);
  }

  private static void aboveFaces() {
    d.sentence("2 a FACE (a FACE or the ROOT is ABOVE it)");
    ReflectModels x = Told.sorts();
    d.due("the ROOT", Told.type(x, 0, 2), 6);
    d.due("a FACE", Told.type(x, 1, 2), 7);
    d.due("a FACE below a FACE", Told.type(x, 7, 2), 8);
    for (int above = 2; above <= 5; above++) {
      d.due("class " + above, Told.type(x, above, 2), STATE);
    }
    d.due("PLAIN below the ROOT", Told.type(x, 4, 0), 9);
    d.due("PLAIN that is not the ROOT", Told.type(x, 9, 2), STATE);
    d.due("told(0)", x.told(0), 10);
  }

  private static void aboveRecords() {
    d.sentence("3 a RECORD (the ROOT is ABOVE it)");
    ReflectModels x = Told.sorts();
    for (int above = 1; above <= 5; above++) {
      d.due("class " + above, Told.type(x, above, 3), STATE);
    }
    d.due("the ROOT", Told.type(x, 0, 3), 6);
  }

  private static void aboveEnumerations() {
    d.sentence("4 an ENUMERATION (the ROOT is ABOVE it)");
    ReflectModels x = Told.sorts();
    for (int above = 1; above <= 5; above++) {
      d.due("class " + above, Told.type(x, above, 4), STATE);
    }
    d.due("the ROOT", Told.type(x, 0, 4), 6);
  }

  private static void shutOnes() {
    d.sentence("may be SHUT");
    for (int sort = 0; sort <= 4; sort++) {
      ReflectModels x = new ReflectModels();
      d.due("SORT " + sort, Told.shut(x, 0, sort), 1);
      d.due("SORT " + sort + ", not SHUT", Told.type(x, 0, sort), 2);
      int shut = Told.handle(x, 1, 0, INT, Told.STATIC, 0, 0);
      int open = Told.handle(x, 2, 0, INT, Told.STATIC, 0, 0);
      d.due("leave() of SORT " + sort, x.leave(shut), NO_LEAVE);
      d.due("leave() of SORT " + sort + ", not SHUT", x.leave(open), 1);
    }
  }

  private static void failingOnes() {
    d.sentence("may FAIL at its START");
    for (int sort = 0; sort <= 4; sort++) {
      ReflectModels x = new ReflectModels();
      d.due("SORT " + sort, Told.failing(x, 0, sort), 1);
      d.due("SORT " + sort + " that does not", Told.shut(x, 0, sort), 2);
      d.due("start(1)", x.start(1), START);
      d.due("start(2)", x.start(2), 1);
    }
  }

  private static void actingOnes() {
    d.sentence("one of SORT 0, 1, 3, 4 may ACT as one FACE, too");
    ReflectModels x = Told.sorts();
    int c = 6;
    for (int sort : new int[] {0, 1, 3, 4}) {
      for (int face : new int[] {0, 2, 3, 4, 5}) {
        d.due("SORT " + sort + " as class " + face, Told.acting(x, 0, sort, face), STATE);
      }
      d.due("SORT " + sort + " as itself", Told.acting(x, 0, sort, c), UNKNOWN);
      d.due("SORT " + sort + " as the FACE", Told.acting(x, 0, sort, 1), c);
      d.due("about(" + c + ", 2)", x.about(c, 2), 1);
      c++;
    }
    d.due("a FACE as a FACE", Told.acting(x, 0, 2, 1), STATE);
    d.due("a FACE as a FACE that is ABOVE it", Told.acting(x, 1, 2, 1), STATE);
    d.due("PLAIN as none", Told.acting(x, 0, 0, NONE), 10);
    d.due("about(10, 2)", x.about(10, 2), NONE);
  }

  private static void recordsAndEnumerationsAreAboveNone() {
    d.sentence("Nothing is ABOVE a RECORD, an ENUMERATION but the ROOT, and they are ABOVE none");
    ReflectModels x = Told.sorts();
    for (int sort = 0; sort <= 4; sort++) {
      d.due("a RECORD ABOVE SORT " + sort, Told.type(x, 2, sort), STATE);
      d.due("an ENUMERATION ABOVE SORT " + sort, Told.type(x, 3, sort), STATE);
    }
    d.due("told(0)", x.told(0), 6);
  }

  // ---- TYPES, VALUES

  private static void typesOfFields() {
    d.sentence("TYPES: -1 INT, -2 LONG, a class");
    ReflectModels x = Told.sorts();
    for (int type = -2; type <= 5; type++) {
      d.due("TYPE " + type, Told.field(x, 4, type + 2, type), type + 2);
    }
    d.due("TYPE 6", Told.field(x, 4, 8, 6), UNKNOWN);
    d.due("TYPE -3", Told.field(x, 4, 8, VOID), OUTSIDE);
    d.due("the least TYPE", Told.field(x, 4, 8, Integer.MIN_VALUE), OUTSIDE);
    d.due("the greatest TYPE", Told.field(x, 4, 8, Integer.MAX_VALUE), UNKNOWN);
    d.due("told(1)", x.told(1), 8);
  }

  private static void typesOfMethods() {
    d.sentence("TYPES: -1 INT, -2 LONG, a class (of METHODS)");
    ReflectModels x = Told.sorts();
    for (int type = -2; type <= 5; type++) {
      d.due("first " + type, Told.method(x, 4, 0, INT, Told.OPEN, 0, 0, type), 2 * (type + 2));
      d.due("second " + type, Told.method(x, 4, 0, INT, Told.OPEN, 0, 0, INT, type), 2 * (type + 2) + 1);
    }
    d.due("first -3", Told.method(x, 4, 0, INT, Told.OPEN, 0, 0, VOID), OUTSIDE);
    d.due("second -3", Told.method(x, 4, 0, INT, Told.OPEN, 0, 0, INT, VOID), OUTSIDE);
    d.due("first 6", Told.method(x, 4, 0, INT, Told.OPEN, 0, 0, 6), UNKNOWN);
    d.due("second 6", Told.method(x, 4, 0, INT, Told.OPEN, 0, 0, INT, 6), UNKNOWN);
  }

  private static void typesThatAreGiven() {
    d.sentence("of what a METHOD gives also -3 VOID");
    ReflectModels x = Told.sorts();
    for (int gives = -3; gives <= 5; gives++) {
      d.due("gives " + gives, Told.method(x, 4, gives + 3, gives, Told.OPEN, 0, 0), gives + 3);
    }
    d.due("gives -4", Told.method(x, 4, 9, -4, Told.OPEN, 0, 0), OUTSIDE);
    d.due("gives 6", Told.method(x, 4, 9, 6, Told.OPEN, 0, 0), UNKNOWN);
  }

  private static void nothingsNumber() {
    d.sentence("0 NOTHING (the number is not looked at)");
    ReflectModels x = new ReflectModels();
    Told.type(x, 0, 0);
    Told.staticField(x, 1, 0, 1);
    int echo = Told.handle(x, 1, 0, 1, Told.STATIC, 2, 1, 1);
    int f = x.findField(1, 0, false);
    for (long v : new long[] {0, 1, -1, 2147483648L, Long.MIN_VALUE, Long.MAX_VALUE}) {
      d.due("value(0, 0, " + v + ")", x.value(0, 0, v), 1);
      d.gives("call with it", x, x.call(echo, NONE), 0, 0);
      d.due("set to it", x.set(f, NONE), 1);
      d.gives("get", x, x.get(f, NONE, 0), 0, 0);
    }
  }

  private static void kindsOfValues() {
    d.sentence("A VALUE is told by a kind and a number: 0 NOTHING, 1 an INT, 2 a LONG, 3 an OBJECT");
    ReflectModels x = new ReflectModels();
    x.make(0);
    for (int kind = 0; kind <= 3; kind++) {
      d.due("kind " + kind, x.value(0, kind, 0), 1);
    }
    d.due("kind -1", x.value(0, -1, 0), OUTSIDE);
    d.due("kind 4", x.value(0, 4, 0), OUTSIDE);
    d.due("the least kind", x.value(0, Integer.MIN_VALUE, 0), OUTSIDE);
    d.due("the greatest kind", x.value(0, Integer.MAX_VALUE, 0), OUTSIDE);
  }

  /**
   * VALUES of all kinds against one TYPE: where they FIT, both set() and call() and make() of a
   * RECORD take them; else these are UNLIKE. OBJECT 0 is of the ROOT, 1 of class 1, 2 of 2 below it.
   */
  private static void fits(int type, boolean nothing, boolean anInt, boolean aLong, boolean ofRoot, boolean ofOne, boolean ofTwo) {
    ReflectModels x = new ReflectModels();
    Told.type(x, 0, 0);
    Told.type(x, 1, 0);
    int record = Told.type(x, 0, 3);
    Told.staticField(x, 0, 0, type);
    Told.recordField(x, record, 0, type);
    int m = Told.handle(x, 0, 0, VOID, Told.STATIC, 0, 0, type);
    int f = x.findField(0, 0, false);
    for (int c = 0; c <= 2; c++) {
      x.make(c);
    }
    int[] kinds = {0, 1, 2, 3, 3, 3};
    long[] numbers = {0, 7, 8, 0, 1, 2};
    boolean[] due = {nothing, anInt, aLong, ofRoot, ofOne, ofTwo};
    int made = 3;
    for (int i = 0; i < kinds.length; i++) {
      String what = "kind " + kinds[i] + ", number " + numbers[i] + " for TYPE " + type;
      x.value(0, kinds[i], numbers[i]);
      d.due("set: " + what, x.set(f, NONE), due[i] ? 1 : UNLIKE);
      d.due("call: " + what, x.call(m, NONE), due[i] ? 1 : UNLIKE);
      d.due("make: " + what, x.make(record), due[i] ? made++ : UNLIKE);
    }
  }

  private static void fitsInt() {
    d.sentence("It FITS INT, if it is an INT");
    fits(INT, false, true, false, false, false, false);
  }

  private static void fitsLong() {
    d.sentence("LONG, if it is an INT (it is WIDENED) or LONG");
    fits(LONG, false, true, true, false, false, false);
    ReflectModels x = new ReflectModels();
    Told.staticField(x, 0, 0, LONG);
    int f = x.findField(0, 0, false);
    for (long v : new long[] {Integer.MIN_VALUE, -1, 0, Integer.MAX_VALUE}) {
      x.value(0, 1, v);
      x.set(f, NONE);
      d.gives("the INT " + v, x, x.get(f, NONE, 0), 2, v);
    }
    for (long v : new long[] {Long.MIN_VALUE, Long.MAX_VALUE}) {
      x.value(0, 2, v);
      x.set(f, NONE);
      d.gives("the LONG " + v, x, x.get(f, NONE, 0), 2, v);
    }
  }

  private static void fitsClass() {
    d.sentence("a class, if it is NOTHING, or an OBJECT OF it");
    fits(0, true, false, false, true, true, true);
    fits(1, true, false, false, false, true, true);
    fits(2, true, false, false, false, false, true);
  }

  private static void whatAnObjectIsOf() {
    d.sentence("OF it: of its own class, of those ABOVE that, of the FACES that these ACT as, and those ABOVE them");
    ReflectModels x = new ReflectModels();
    Told.type(x, 0, 2); // 1 FACE
    Told.type(x, 1, 2); // 2 FACE below 1
    Told.type(x, 2, 2); // 3 FACE below 2
    Told.type(x, 0, 2); // 4 FACE
    Told.type(x, 4, 2); // 5 FACE below 4
    Told.acting(x, 0, 0, 2); // 6 acts as 2
    Told.acting(x, 6, 0, 4); // 7 below 6, acts as 4
    Told.type(x, 7, 0); // 8 below 7
    Told.type(x, 6, 0); // 9 below 6
    x.make(6);
    x.make(7);
    x.make(8);
    x.make(9);
    x.make(0);
    int[][] due = {
      {1, 1, 1, 0, 0, 0, 1, 0, 0, 0}, {1, 1, 1, 0, 1, 0, 1, 1, 0, 0}, {1, 1, 1, 0, 1, 0, 1, 1, 1, 0},
      {1, 1, 1, 0, 0, 0, 1, 0, 0, 1}, {1, 0, 0, 0, 0, 0, 0, 0, 0, 0}};
    for (int o = 0; o < due.length; o++) {
      for (int c = 0; c < due[o].length; c++) {
        d.due("is(" + o + ", " + c + ")", x.is(o, c), due[o][c]);
      }
    }
  }

  private static void first() {
    d.sentence("0, and NOTHING of classes, are FIRST");
    ReflectModels x = new ReflectModels();
    Told.type(x, 0, 0);
    int[] types = {INT, LONG, 0, 1};
    int[] kinds = {1, 2, 0, 0};
    for (int i = 0; i < 4; i++) {
      Told.field(x, 1, i, types[i]);
      Told.staticField(x, 1, i + 4, types[i]);
      x.field(1, i + 8, types[i], false, true, false);
    }
    x.make(1);
    for (int name = 0; name < 12; name++) {
      int h = x.findField(1, name, false);
      d.gives("FIELD " + name, x, x.get(h, 0, 0), kinds[name % 4], 0);
    }
  }

  // ---- MEMBERS

  private static void fortyMembers() {
    d.sentence("MEMBERS, 40 at most of all classes");
    ReflectModels x = Told.sorts();
    for (int i = 0; i < 20; i++) {
      d.due("FIELD " + i, Told.field(x, 4, i, INT), 2 * i);
      d.due("METHOD " + i, Told.method(x, 5, i, INT, Told.OPEN, 0, 0), 2 * i + 1);
    }
    d.due("told(1)", x.told(1), 40);
    for (int c = 0; c <= 5; c++) {
      d.due("a 41st, a FIELD of " + c, x.field(c, 0, INT, c < 2, c == 2, false), c == 4 ? STATE : FULL);
      d.due("a 41st, a METHOD of " + c, Told.method(x, c, 0, INT, Told.STATIC, 0, 0), c == 5 ? STATE : FULL);
    }
    d.due("told(1)", x.told(1), 40);
    d.due("about(4, 4)", x.about(4, 4), 20);
    d.due("about(0, 4)", x.about(0, 4), 0);
    d.due("the last one is found", Told.found(x, 5, 19), 0);
    d.due("it is MEMBER 39", x.handle(0, 0), 39);
    d.due("what is not there is looked for among all", x.findField(2, 0, true), Told.NO_MEMBER);
    d.due("a RECORD of none is made", x.make(2), 0);
    d.due("PLAIN with 20 FIELDS", x.make(4), 1);
    d.gives("its last FIELD", x, x.get(x.findField(4, 19, true), 1, 0), 1, 0);
  }

  private static void membersInTheirOrder() {
    d.sentence("MEMBERS of a class, in the order in which they are told");
    ReflectModels x = new ReflectModels();
    Told.type(x, 0, 3);
    Told.type(x, 0, 0);
    d.due("first", Told.recordField(x, 1, 9, LONG), 0);
    d.due("of another class", Told.field(x, 2, 0, INT), 1);
    d.due("a METHOD", Told.method(x, 1, 0, INT, Told.OPEN, 0, 0), 2);
    d.due("second", Told.recordField(x, 1, 3, INT), 3);
    x.value(0, 2, 5);
    x.value(1, 1, 6);
    d.due("in this order", x.make(1), 0);
    d.gives("FIELD 9", x, x.get(x.findField(1, 9, false), 0, 0), 2, 5);
    d.gives("FIELD 3", x, x.get(x.findField(1, 3, false), 0, 0), 1, 6);
    x.value(0, 1, 6);
    x.value(1, 2, 5);
    d.due("in the other order", x.make(1), UNLIKE);
  }

  private static void namesOfFields() {
    d.sentence("FIELDS, of a name 0 to 19");
    ReflectModels x = Told.sorts();
    d.due("name -1", Told.field(x, 4, -1, INT), OUTSIDE);
    d.due("name 0", Told.field(x, 4, 0, INT), 0);
    d.due("name 19", Told.field(x, 4, 19, INT), 1);
    d.due("name 20", Told.field(x, 4, 20, INT), OUTSIDE);
    d.due("findField of -1", x.findField(4, -1, false), OUTSIDE);
    d.due("findField of 0", x.findField(4, 0, false), 0);
    d.due("findField of 19", x.findField(4, 19, true), 1);
    d.due("findField of 20", x.findField(4, 20, true), OUTSIDE);
  }

  private static void namesOfMethods() {
    d.sentence("METHODS, of a name (0 to 19)");
    ReflectModels x = Told.sorts();
    d.due("name -1", Told.method(x, 4, -1, INT, Told.OPEN, 0, 0), OUTSIDE);
    d.due("name 0", Told.method(x, 4, 0, INT, Told.OPEN, 0, 0), 0);
    d.due("name 19", Told.method(x, 4, 19, INT, Told.OPEN, 0, 0), 1);
    d.due("name 20", Told.method(x, 4, 20, INT, Told.OPEN, 0, 0), OUTSIDE);
    d.due("findMethod of -1", Told.found(x, 4, -1), OUTSIDE);
    d.due("findMethod of 0", Told.found(x, 4, 0), 0);
    d.due("findMethod of 19", Told.found(x, 4, 19), 1);
    d.due("findMethod of 20", Told.found(x, 4, 20), OUTSIDE);
  }

  private static void staticFields() {
    d.sentence("STATIC or not (those of the ROOT and of FACES are)");
    ReflectModels x = Told.sorts();
    for (int c : new int[] {0, 1}) {
      for (int marks = 0; marks < 4; marks++) {
        d.due("of " + c + ", not STATIC", x.field(c, 0, INT, false, marks % 2 == 1, marks > 1), STATE);
      }
    }
    d.due("the ROOT's", Told.staticField(x, 0, 0, INT), 0);
    d.due("a FACE's", Told.staticField(x, 1, 0, INT), 1);
    d.due("a FACE's FINAL, HIDDEN", x.field(1, 1, INT, true, true, true), 2);
    int told = 3;
    for (int c : new int[] {3, 4, 5}) {
      d.due("of " + c + ", STATIC", Told.staticField(x, c, 0, INT), told++);
      d.due("of " + c + ", not STATIC", Told.field(x, c, 1, INT), told++);
    }
  }

  private static void recordFields() {
    d.sentence("FINAL or not (those of RECORDS are not STATIC, and FINAL)");
    ReflectModels x = Told.sorts();
    for (boolean hidden : new boolean[] {false, true}) {
      d.due("STATIC, FINAL", x.field(2, 0, INT, true, true, hidden), STATE);
      d.due("STATIC, not FINAL", x.field(2, 0, INT, true, false, hidden), STATE);
      d.due("neither", x.field(2, 0, INT, false, false, hidden), STATE);
      d.due("FINAL", x.field(2, hidden ? 1 : 0, INT, false, true, hidden), hidden ? 1 : 0);
    }
    d.due("told(1)", x.told(1), 2);
  }

  private static void upToTwoTypes() {
    d.sentence("METHODS, of a name, up to 2 TYPES");
    ReflectModels x = Told.sorts();
    d.due("n -1", x.method(4, 0, -1, INT, INT, INT, 0, 0, 0), OUTSIDE);
    for (int n = 0; n <= 2; n++) {
      d.due("n " + n, x.method(4, 0, n, INT, INT, INT, 0, 0, 0), n);
    }
    d.due("n 3", x.method(4, 0, 3, INT, INT, INT, 0, 0, 0), OUTSIDE);
    d.due("the least n", x.method(4, 0, Integer.MIN_VALUE, INT, INT, INT, 0, 0, 0), OUTSIDE);
    d.due("the greatest n", x.method(4, 0, Integer.MAX_VALUE, INT, INT, INT, 0, 0, 0), OUTSIDE);
    d.due("told(1)", x.told(1), 3);
  }

  private static void abstractMethods() {
    d.sentence("ABSTRACT (in ABSTRACT ones, FACES alone)");
    ReflectModels x = Told.sorts();
    for (int c : new int[] {0, 2, 3, 4}) {
      d.due("of class " + c, Told.method(x, c, 0, INT, Told.ABSTRACT_MARK, 0, 0), STATE);
    }
    d.due("of an ABSTRACT one", Told.method(x, 5, 0, INT, Told.ABSTRACT_MARK, 0, 0), 0);
    d.due("of a FACE", Told.method(x, 1, 0, INT, Told.ABSTRACT_MARK, 0, 0), 1);
    d.due("an ABSTRACT one's that is not", Told.method(x, 5, 1, INT, Told.OPEN, 0, 0), 2);
  }

  private static void methodsOfFaces() {
    d.sentence("of these all but STATIC ones");
    ReflectModels x = Told.sorts();
    d.due("neither", Told.method(x, 1, 0, INT, Told.OPEN, 0, 0), STATE);
    d.due("HIDDEN", Told.method(x, 1, 0, INT, Told.HIDDEN, 0, 0), STATE);
    d.due("STATIC", Told.method(x, 1, 0, INT, Told.STATIC, 0, 0), 0);
    d.due("STATIC, HIDDEN", Told.method(x, 1, 1, INT, Told.STATIC | Told.HIDDEN, 0, 0), 1);
    d.due("ABSTRACT", Told.method(x, 1, 2, INT, Told.ABSTRACT_MARK, 0, 0), 2);
  }

  private static void hiddenIsNotAbstract() {
    d.sentence("HIDDEN (not ABSTRACT) or not");
    ReflectModels x = Told.sorts();
    for (int c = 0; c <= 5; c++) {
      d.due("HIDDEN, ABSTRACT of " + c, Told.method(x, c, 0, INT, Told.HIDDEN | Told.ABSTRACT_MARK, 0, 0), OUTSIDE);
      d.due("STATIC, ABSTRACT of " + c, Told.method(x, c, 0, INT, Told.STATIC | Told.ABSTRACT_MARK, 0, 0), OUTSIDE);
      d.due("all three of " + c, Told.method(x, c, 0, INT, 7, 0, 0), OUTSIDE);
    }
    d.due("HIDDEN", Told.method(x, 5, 0, INT, Told.HIDDEN, 0, 0), 0);
  }

  private static void twoFieldsOfOneName() {
    d.sentence("No class has two FIELDS of one name");
    ReflectModels x = Told.sorts();
    d.due("one", Told.field(x, 4, 7, INT), 0);
    d.due("again", Told.field(x, 4, 7, INT), STATE);
    d.due("of another TYPE, STATIC, FINAL, HIDDEN", x.field(4, 7, LONG, true, true, true), STATE);
    d.due("of another name", Told.field(x, 4, 8, INT), 1);
    d.due("of another class", Told.field(x, 5, 7, INT), 2);
    d.due("below it", Told.field(x, Told.type(x, 4, 0), 7, INT), 3);
    d.due("a METHOD of the name", Told.method(x, 4, 7, INT, Told.OPEN, 0, 0), 4);
    d.due("behind a METHOD of the name", Told.method(x, 5, 1, INT, Told.OPEN, 0, 0), 5);
    d.due("a FIELD", Told.field(x, 5, 1, INT), 6);
  }

  private static void twoMethodsOfOneName() {
    d.sentence("or two METHODS of one name and TYPES");
    ReflectModels x = Told.sorts();
    int[][] rows = {{}, {INT}, {LONG}, {0}, {4}, {INT, INT}, {INT, LONG}, {LONG, INT}, {0, INT}, {INT, 0}, {4, 4}};
    for (int i = 0; i < rows.length; i++) {
      d.due("TYPES " + i, Told.method(x, 4, 7, INT, Told.OPEN, 0, 0, rows[i]), i);
    }
    for (int i = 0; i < rows.length; i++) {
      d.due("TYPES " + i + " again", Told.method(x, 4, 7, INT, Told.OPEN, 0, 0, rows[i]), STATE);
      d.due("TYPES " + i + ", with all else another", Told.method(x, 4, 7, LONG, 5, 5, 9, rows[i]), STATE);
      d.due("TYPES " + i + " of another name", Told.method(x, 4, 8, INT, Told.OPEN, 0, 0, rows[i]), rows.length + i);
    }
    d.due("of another class", Told.method(x, 5, 7, INT, Told.OPEN, 0, 0), 2 * rows.length);
  }
}
