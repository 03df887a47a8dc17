/**
 * The sentences under "2 FAILURES" that name a boundary case of the acts: HANDLES and LEAVE,
 * STARTS, GET, SET, CALL, what is MADE, OBJECTS, PROXIES: a test for each of them.
 */
public final class ActsEdgesTest {
  private static final int NONE = Told.NONE, UNKNOWN = Told.UNKNOWN, FULL = Told.FULL;
  private static final int NO_LEAVE = Told.NO_LEAVE, UNLIKE = Told.UNLIKE;
  private static final int NOTHING = Told.NOTHING, ABSTRACT = Told.ABSTRACT, FINAL = Told.FINAL;
  private static final int START = Told.START, NO_DEFINITION = Told.NO_DEFINITION;
  private static final int INT = Told.INT, LONG = Told.LONG, VOID = Told.VOID;
  private static final int OPEN = Told.OPEN, STATIC = Told.STATIC, ABSTRACT_MARK = Told.ABSTRACT_MARK, HIDDEN = Told.HIDDEN;
  private static final Due d = new Due();

  public static void main(String[] args) {
    tenLessTheFailure();
    whatWasDoneStays();
    theCallerAtFirst();
    sixtyHandles();
    noLeaveAtFirst();
    mayBeUsed();
    startedOnce();
    thatAboveFirst();
    itsFailureGoesOn();
    facesAreNotStarted();
    failsAtItsStart();
    noDefinition();
    getsInOrder();
    getsStatic();
    getsAs();
    getsAsAheadOfTheRest();
    setsInOrder();
    setsStatic();
    setsFinal();
    setsWhatFits();
    callsStaticInOrder();
    callsInOrder();
    callsWithValues();
    doesItself();
    doesTheNearest();
    asksTheHandler();
    doesNone();
    throwsWrapped();
    makesInOrder();
    makesEnumerations();
    makesRecords();
    makesOthers();
    startsBehindValues();
    makesFirst();
    sixtyObjects();
    constantsInAnyCase();
    constantsInOrder();
    proxiesAreOfTheRoot();
    handlerCounts();
    handlerNothing();
    handlerFails();
    handlerFirst();
    d.end();
  }

  // ---- FAILURES, HANDLES, LEAVE

  private static void failure(ReflectModels x, int answer, int failure) {
    d.due("FAILURE " + failure, answer, -10 - failure);
    d.due("told(5) behind " + failure, x.told(5), failure);
  }

  private static void tenLessTheFailure() {
    d.sentence("FAILURES: 1 NO MEMBER .. 9 NO DEFINITION. A call with one answers -10 less it");
    ReflectModels x = new ReflectModels();
    Told.failing(x, 0, 0); // 1
    Told.type(x, 0, 1); // 2 ABSTRACT
    x.field(0, 0, INT, true, true, false);
    x.field(2, 1, INT, false, false, true);
    int throwing = Told.handle(x, 0, 0, INT, STATIC, 5, 0);
    int stat = x.findField(0, 0, false);
    int hidden = x.findField(2, 1, false);
    d.due("told(5) at first", x.told(5), 0);
    failure(x, x.findField(0, 1, true), 1);
    failure(x, x.get(hidden, NONE, 0), 2);
    x.leave(hidden);
    x.make(0);
    failure(x, x.get(hidden, 0, 0), 3);
    failure(x, x.get(hidden, NONE, 0), 4);
    failure(x, x.make(2), 5);
    failure(x, x.call(throwing, NONE), 6);
    x.value(0, 1, 1);
    failure(x, x.set(stat, NONE), 7);
    failure(x, x.start(1), 8);
    failure(x, x.start(1), 9);
  }

  private static void whatWasDoneStays() {
    d.sentence("what was done by then stays");
    ReflectModels x = new ReflectModels();
    Told.type(x, 0, 0); // 1
    Told.type(x, 0, 0); // 2
    Told.failing(x, 2, 0); // 3 FAILS
    Told.type(x, 0, 2); // 4 FACE
    Told.type(x, 0, 0); // 5
    x.field(1, 0, INT, true, true, false);
    int throwing = Told.handle(x, 5, 0, INT, STATIC, 5, 1);
    int asked = Told.handle(x, 4, 0, 1, ABSTRACT_MARK, 0, 0);
    int counted = Told.handle(x, 4, 1, INT, ABSTRACT_MARK, 0, 0);
    int f = x.findField(1, 0, false);
    d.due("a BODY that fails", x.call(throwing, NONE), Told.WRAPPED);
    d.due("its class is STARTED", x.about(5, 3), 1);
    d.due("a class that FAILS", x.start(3), START);
    d.due("that ABOVE it is STARTED", x.about(2, 3), 1);
    x.proxy(4, 0);
    d.due("a HANDLER's INT that is no OBJECT", x.call(asked, 0), Told.WRAPPED);
    d.gives("it was asked", x, x.call(counted, 0), 1, 2);
    x.value(0, 1, 1);
    d.due("a FINAL one", x.set(f, NONE), FINAL);
    d.due("its class is STARTED", x.about(1, 3), 1);
  }

  private static void theCallerAtFirst() {
    d.sentence("THE CALLER is a class (the ROOT at first)");
    ReflectModels x = new ReflectModels();
    Told.type(x, 0, 0);
    x.field(0, 0, INT, true, false, true);
    x.field(1, 0, INT, true, false, true);
    int root = x.findField(0, 0, false);
    int one = x.findField(1, 0, false);
    d.due("the ROOT's own", x.handle(root, 2), 1);
    d.due("another's", x.handle(one, 2), 0);
    d.due("what it was", x.caller(1), 0);
  }

  private static void sixtyHandles() {
    d.sentence("A HANDLE, numbered from 0, 60 at most");
    ReflectModels x = new ReflectModels();
    Told.staticField(x, 0, 0, INT);
    Told.method(x, 0, 0, INT, STATIC, 0, 3);
    for (int h = 0; h < 60; h++) {
      d.due("HANDLE " + h, h < 59 ? x.findField(0, 0, h % 2 == 0) : Told.found(x, 0, 0), h);
    }
    d.due("a 61st of a FIELD", x.findField(0, 0, true), FULL);
    d.due("a 61st of a METHOD", Told.found(x, 0, 0), FULL);
    d.due("told(2)", x.told(2), 60);
    d.due("get by the first", x.get(0, NONE, 0), 1);
    d.gives("call by the last", x, x.call(59, NONE), 1, 3);
    d.due("call by a 61st", x.call(60, NONE), UNKNOWN);
    d.due("get by a 61st", x.get(60, NONE, 0), UNKNOWN);
    d.due("leave of a 61st", x.leave(60), UNKNOWN);
  }

  private static void noLeaveAtFirst() {
    d.sentence("is of a MEMBER, has LEAVE or not (not at first)");
    ReflectModels x = new ReflectModels();
    Told.type(x, 0, 0);
    x.field(1, 0, INT, false, false, true);
    Told.field(x, 1, 1, INT);
    int one = x.findField(1, 0, false);
    int two = x.findField(1, 0, false);
    int open = x.findField(1, 1, false);
    d.due("HIDDEN", x.handle(one, 1), 0);
    d.due("not HIDDEN", x.handle(open, 1), 0);
    d.due("leave", x.leave(one), 1);
    d.due("it has LEAVE", x.handle(one, 1), 1);
    d.due("another one of the MEMBER has none", x.handle(two, 1), 0);
    d.due("nor has a later one", x.handle(x.findField(1, 0, false), 1), 0);
  }

  private static void mayBeUsed() {
    d.sentence("It MAY be used by the CALLER, if its MEMBER is not HIDDEN, is the CALLER's own, or it has LEAVE");
    ReflectModels x = new ReflectModels();
    Told.type(x, 0, 0); // 1
    Told.type(x, 1, 0); // 2
    Told.type(x, 2, 0); // 3
    x.field(2, 0, INT, true, false, true);
    x.field(2, 1, INT, true, false, false);
    int hidden = x.findField(2, 0, false);
    int open = x.findField(2, 1, false);
    for (int c = 0; c <= 3; c++) {
      x.caller(c);
      d.due("HIDDEN, CALLER " + c, x.handle(hidden, 2), c == 2 ? 1 : 0);
      d.due("get of it", x.get(hidden, NONE, 0), c == 2 ? 1 : NO_LEAVE);
      d.due("not HIDDEN, CALLER " + c, x.handle(open, 2), 1);
      d.due("get of it", x.get(open, NONE, 0), 1);
    }
    x.leave(hidden);
    for (int c = 0; c <= 3; c++) {
      x.caller(c);
      d.due("with LEAVE, CALLER " + c, x.handle(hidden, 2), 1);
      d.due("get of it", x.get(hidden, NONE, 0), 1);
    }
  }

  // ---- STARTS

  private static void startedOnce() {
    d.sentence("STARTED: a class once");
    ReflectModels x = new ReflectModels();
    Told.type(x, 0, 4);
    x.constants(1, 3);
    for (int i = 0; i < 3; i++) {
      d.due("start(1)", x.start(1), 1);
      d.due("told(3)", x.told(3), 3);
      d.due("constant(1, 2)", x.constant(1, 2), 2);
    }
  }

  private static void thatAboveFirst() {
    d.sentence("that ABOVE first");
    ReflectModels x = new ReflectModels();
    Told.type(x, 0, 0); // 1
    Told.type(x, 0, 0); // 2
    Told.type(x, 1, 1); // 3
    Told.type(x, 3, 0); // 4
    Told.type(x, 4, 0); // 5
    Told.type(x, 0, 2); // 6 FACE
    Told.type(x, 6, 2); // 7 FACE below 6
    d.due("start(4)", x.start(4), 1);
    int[] states = {1, 1, 0, 1, 1, 0, 0, 0};
    for (int c = 0; c < states.length; c++) {
      d.due("about(" + c + ", 3)", x.about(c, 3), states[c]);
    }
    d.due("start(7)", x.start(7), 1);
    d.due("about(6, 3)", x.about(6, 3), 1);
  }

  private static void itsFailureGoesOn() {
    d.sentence("its FAILURE goes on, and this one has FAILED, too");
    ReflectModels x = new ReflectModels();
    Told.type(x, 0, 0); // 1
    Told.failing(x, 1, 0); // 2 FAILS
    Told.failing(x, 2, 0); // 3 FAILS
    Told.type(x, 3, 0); // 4
    Told.type(x, 2, 0); // 5
    Told.type(x, 4, 0); // 6
    d.due("start(4)", x.start(4), START);
    int[] states = {1, 1, 2, 2, 2, 0, 0};
    for (int c = 0; c < states.length; c++) {
      d.due("about(" + c + ", 3)", x.about(c, 3), states[c]);
    }
    d.due("start(5), below one that has FAILED", x.start(5), NO_DEFINITION);
    d.due("about(5, 3)", x.about(5, 3), 2);
    d.due("make(6), far below it", x.make(6), NO_DEFINITION);
    d.due("about(6, 3)", x.about(6, 3), 2);
  }

  private static void facesAreNotStarted() {
    d.sentence("FACES that it ACTS as are not STARTED");
    ReflectModels x = new ReflectModels();
    Told.failing(x, 0, 2); // 1 FACE, FAILS
    Told.type(x, 0, 2); // 2 FACE
    Told.acting(x, 0, 0, 1); // 3
    Told.acting(x, 3, 0, 2); // 4
    d.due("start(4)", x.start(4), 1);
    int[] states = {1, 0, 0, 1, 1};
    for (int c = 0; c < states.length; c++) {
      d.due("about(" + c + ", 3)", x.about(c, 3), states[c]);
    }
    d.due("make(3)", x.make(3), 0);
    d.due("about(1, 3)", x.about(1, 3), 0);
  }

  private static void failsAtItsStart() {
    d.sentence("if it FAILS: START, and it has FAILED");
    ReflectModels x = new ReflectModels();
    Told.failing(x, 0, 0); // 1
    Told.failing(x, 0, 4); // 2
    Told.failing(x, 0, 3); // 3
    Told.failing(x, 0, 0); // 4
    Told.failing(x, 0, 0); // 5
    x.constants(2, 2);
    Told.staticField(x, 4, 0, INT);
    int m = Told.handle(x, 5, 0, INT, STATIC, 0, 0);
    int f = x.findField(4, 0, false);
    d.due("make(1)", x.make(1), START);
    d.due("constant(2, 0)", x.constant(2, 0), START);
    d.due("make(3)", x.make(3), START);
    d.due("get", x.get(f, NONE, 0), START);
    d.due("call", x.call(m, NONE), START);
    for (int c = 1; c <= 5; c++) {
      d.due("about(" + c + ", 3)", x.about(c, 3), 2);
    }
    d.due("no OBJECT came", x.told(3), 0);
    d.due("the ROOT has not FAILED", x.about(0, 3), 1);
  }

  private static void noDefinition() {
    d.sentence("One that has FAILED: NO DEFINITION");
    ReflectModels x = new ReflectModels();
    Told.failing(x, 0, 0); // 1
    Told.failing(x, 0, 4); // 2
    x.constants(2, 1);
    Told.staticField(x, 1, 0, INT);
    int m = Told.handle(x, 1, 0, INT, STATIC, 0, 0);
    int f = x.findField(1, 0, false);
    x.start(1);
    x.start(2);
    d.due("start(1)", x.start(1), NO_DEFINITION);
    d.due("make(1)", x.make(1), NO_DEFINITION);
    d.due("constant(2, 0)", x.constant(2, 0), NO_DEFINITION);
    d.due("get", x.get(f, NONE, 0), NO_DEFINITION);
    d.due("call", x.call(m, NONE), NO_DEFINITION);
    x.value(0, 1, 1);
    d.due("set", x.set(f, NONE), NO_DEFINITION);
    d.due("about(1, 3)", x.about(1, 3), 2);
  }

  // ---- GET, SET

  private static void getsInOrder() {
    d.sentence("GET: NO LEAVE; .. NOTHING, if the receiver is; UNLIKE, if it is not OF the class");
    ReflectModels x = new ReflectModels();
    Told.type(x, 0, 0); // 1
    Told.type(x, 1, 0); // 2
    x.field(1, 0, INT, false, false, true);
    x.make(0);
    x.make(1);
    x.make(2);
    int h = x.findField(1, 0, false);
    for (int o = NONE; o <= 2; o++) {
      d.due("without LEAVE, of " + o, x.get(h, o, 0), NO_LEAVE);
    }
    x.leave(h);
    d.due("of NOTHING", x.get(h, NONE, 0), NOTHING);
    d.due("of what is not OF it", x.get(h, 0, 0), UNLIKE);
    d.due("of one OF it", x.get(h, 1, 0), 1);
    d.due("of one below", x.get(h, 2, 0), 1);
  }

  private static void getsStatic() {
    d.sentence("GET: .. a STATIC one: its class is STARTED");
    ReflectModels x = new ReflectModels();
    Told.type(x, 0, 2); // 1 FACE
    Told.type(x, 0, 0); // 2
    x.field(2, 0, INT, true, false, true);
    Told.staticField(x, 1, 0, LONG);
    int hidden = x.findField(2, 0, false);
    int face = x.findField(1, 0, false);
    d.due("without LEAVE", x.get(hidden, NONE, 0), NO_LEAVE);
    d.due("about(2, 3)", x.about(2, 3), 0);
    x.leave(hidden);
    d.due("with LEAVE", x.get(hidden, NONE, 0), 1);
    d.due("about(2, 3)", x.about(2, 3), 1);
    d.due("a FACE's", x.get(face, NONE, 0), 1);
    d.due("about(1, 3)", x.about(1, 3), 1);
  }

  private static void getsAs() {
    d.sentence("As an INT, a LONG (a FIELD of INT is WIDENED), as it is: UNLIKE, if the FIELD is of another TYPE");
    ReflectModels x = new ReflectModels();
    Told.staticField(x, 0, 0, INT);
    Told.staticField(x, 0, 1, LONG);
    Told.staticField(x, 0, 2, 0);
    for (int name = 0; name < 3; name++) {
      x.findField(0, name, false);
    }
    x.make(0);
    x.value(0, 1, Integer.MIN_VALUE);
    x.set(0, NONE);
    x.set(1, NONE);
    x.value(0, 3, 0);
    x.set(2, NONE);
    d.gives("INT as INT", x, x.get(0, NONE, -1), 1, Integer.MIN_VALUE);
    d.gives("INT as LONG", x, x.get(0, NONE, -2), 2, Integer.MIN_VALUE);
    d.gives("INT as it is", x, x.get(0, NONE, 0), 1, Integer.MIN_VALUE);
    d.due("LONG as INT", x.get(1, NONE, -1), UNLIKE);
    d.gives("LONG as LONG", x, x.get(1, NONE, -2), 2, Integer.MIN_VALUE);
    d.gives("LONG as it is", x, x.get(1, NONE, 0), 2, Integer.MIN_VALUE);
    d.due("an OBJECT as INT", x.get(2, NONE, -1), UNLIKE);
    d.due("an OBJECT as LONG", x.get(2, NONE, -2), UNLIKE);
    d.gives("an OBJECT as it is", x, x.get(2, NONE, 0), 3, 0);
  }

  private static void getsAsAheadOfTheRest() {
    d.sentence("(asked ahead of START, NOTHING; behind NO LEAVE)");
    ReflectModels x = new ReflectModels();
    Told.failing(x, 0, 0); // 1 FAILS
    Told.type(x, 0, 0); // 2
    Told.staticField(x, 1, 0, LONG);
    Told.field(x, 2, 0, 0);
    x.field(2, 1, 0, false, false, true);
    int stat = x.findField(1, 0, false);
    int open = x.findField(2, 0, false);
    int hidden = x.findField(2, 1, false);
    d.due("ahead of START", x.get(stat, NONE, -1), UNLIKE);
    d.due("it is not STARTED", x.about(1, 3), 0);
    d.due("START", x.get(stat, NONE, -2), START);
    d.due("ahead of NO DEFINITION", x.get(stat, NONE, -1), UNLIKE);
    d.due("ahead of NOTHING", x.get(open, NONE, -2), UNLIKE);
    d.due("NOTHING", x.get(open, NONE, 0), NOTHING);
    d.due("behind NO LEAVE", x.get(hidden, NONE, -1), NO_LEAVE);
    x.leave(hidden);
    d.due("with LEAVE", x.get(hidden, NONE, -1), UNLIKE);
  }

  private static void setsInOrder() {
    d.sentence("SET: NO LEAVE; .. NOTHING, UNLIKE of the receiver; FINAL ..; UNLIKE, if the VALUE does not FIT");
    ReflectModels x = new ReflectModels();
    Told.type(x, 0, 0);
    x.field(1, 0, INT, false, true, true);
    x.make(0);
    x.make(1);
    int h = x.findField(1, 0, false);
    x.value(0, 2, 5);
    for (int o = NONE; o <= 1; o++) {
      d.due("without LEAVE, of " + o, x.set(h, o), NO_LEAVE);
    }
    x.caller(1);
    d.due("of NOTHING", x.set(h, NONE), NOTHING);
    d.due("of what is not OF it", x.set(h, 0), UNLIKE);
    d.due("FINAL ahead of the VALUE", x.set(h, 1), FINAL);
    x.leave(h);
    d.due("what does not FIT", x.set(h, 1), UNLIKE);
    d.gives("it is FIRST still", x, x.get(h, 1, 0), 1, 0);
    x.value(0, 1, 5);
    d.due("what FITS", x.set(h, 1), 1);
    d.gives("it is set", x, x.get(h, 1, 0), 1, 5);
  }

  private static void setsStatic() {
    d.sentence("SET: NO LEAVE; a STATIC one STARTED, .. FINAL; UNLIKE");
    ReflectModels x = new ReflectModels();
    Told.failing(x, 0, 0); // 1 FAILS
    Told.type(x, 0, 0); // 2
    x.field(1, 0, INT, true, true, true);
    x.field(2, 0, INT, true, true, false);
    Told.staticField(x, 2, 1, INT);
    int failing = x.findField(1, 0, false);
    int fin = x.findField(2, 0, false);
    int open = x.findField(2, 1, false);
    x.value(0, 0, 0);
    d.due("NO LEAVE ahead of START", x.set(failing, NONE), NO_LEAVE);
    d.due("about(1, 3)", x.about(1, 3), 0);
    x.leave(failing);
    d.due("START ahead of FINAL", x.set(failing, NONE), START);
    d.due("FINAL ahead of UNLIKE", x.set(fin, NONE), FINAL);
    d.due("it is STARTED by then", x.about(2, 3), 1);
    d.due("UNLIKE", x.set(open, NONE), UNLIKE);
  }

  private static void setsFinal() {
    d.sentence("FINAL: a FINAL one, but one that is not STATIC, nor a RECORD's, with LEAVE");
    ReflectModels x = new ReflectModels();
    Told.type(x, 0, 0); // 1
    Told.type(x, 0, 3); // 2 RECORD
    Told.type(x, 0, 4); // 3 ENUMERATION
    x.constants(3, 1);
    x.field(1, 0, INT, false, true, false);
    x.field(1, 1, INT, true, true, false);
    x.field(2, 0, INT, false, true, false);
    x.field(3, 0, INT, false, true, false);
    int plain = x.findField(1, 0, false);
    int stat = x.findField(1, 1, false);
    int record = x.findField(2, 0, false);
    int enumeration = x.findField(3, 0, false);
    x.make(1); // 0
    x.value(0, 1, 4);
    x.make(2); // 1
    x.constant(3, 0); // 2
    int[] handles = {plain, stat, record, enumeration};
    int[] receivers = {0, NONE, 1, 2};
    int[] due = {1, FINAL, FINAL, 1};
    for (int i = 0; i < 4; i++) {
      d.due("without LEAVE, HANDLE " + i, x.set(handles[i], receivers[i]), FINAL);
    }
    for (int i = 0; i < 4; i++) {
      x.leave(handles[i]);
      d.due("with LEAVE, HANDLE " + i, x.set(handles[i], receivers[i]), due[i]);
    }
    int another = x.findField(1, 0, false);
    d.due("by a HANDLE without LEAVE", x.set(another, 0), FINAL);
  }

  private static void setsWhatFits() {
    d.sentence("UNLIKE, if the VALUE does not FIT (and nothing is set)");
    ReflectModels x = new ReflectModels();
    Told.staticField(x, 0, 0, INT);
    int h = x.findField(0, 0, false);
    x.value(0, 1, 5);
    x.value(1, 0, 0);
    d.due("VALUE 0 alone", x.set(h, NONE), 1);
    x.value(0, 2, 6);
    x.value(1, 1, 7);
    d.due("VALUE 1 is not looked at", x.set(h, NONE), UNLIKE);
    d.gives("it stays", x, x.get(h, NONE, 0), 1, 5);
  }

  // ---- CALL

  private static void callsStaticInOrder() {
    d.sentence("CALL: NO LEAVE; a STATIC one: UNLIKE (VALUES ..), then its class is STARTED");
    ReflectModels x = new ReflectModels();
    Told.failing(x, 0, 0);
    int h = Told.handle(x, 1, 0, INT, STATIC | HIDDEN, 5, 0, INT);
    d.due("NO LEAVE", x.call(h, NONE), NO_LEAVE);
    x.leave(h);
    d.due("too few", x.call(h, NONE), UNLIKE);
    x.value(0, 2, 1);
    d.due("does not FIT", x.call(h, NONE), UNLIKE);
    x.value(1, 1, 1);
    d.due("too many", x.call(h, NONE), UNLIKE);
    d.due("it is not STARTED", x.about(1, 3), 0);
    x.value(0, 1, 1);
    d.due("START ahead of the BODY", x.call(h, NONE), START);
    d.due("NO DEFINITION", x.call(h, NONE), NO_DEFINITION);
    d.due("cause()", x.cause(), 0);
  }

  private static void callsInOrder() {
    d.sentence("else NOTHING, UNLIKE of the receiver, UNLIKE of VALUES");
    ReflectModels x = new ReflectModels();
    Told.type(x, 0, 0);
    int h = Told.handle(x, 1, 0, INT, HIDDEN, 5, 3, INT);
    x.make(0);
    x.make(1);
    d.due("NO LEAVE", x.call(h, NONE), NO_LEAVE);
    x.leave(h);
    d.due("NOTHING", x.call(h, NONE), NOTHING);
    d.due("UNLIKE of the receiver", x.call(h, 0), UNLIKE);
    d.due("UNLIKE of VALUES", x.call(h, 1), UNLIKE);
    x.value(0, 1, 1);
    d.due("NOTHING, where VALUES FIT", x.call(h, NONE), NOTHING);
    d.due("UNLIKE of the receiver alone", x.call(h, 0), UNLIKE);
    d.wrapped("the BODY", x, x.call(h, 1), 103);
  }

  private static void callsWithValues() {
    d.sentence("VALUES that are too many, too few, or do not FIT");
    ReflectModels x = new ReflectModels();
    int[] h = {
      Told.handle(x, 0, 0, INT, OPEN, 0, 0), Told.handle(x, 0, 0, INT, OPEN, 0, 0, INT),
      Told.handle(x, 0, 0, INT, OPEN, 0, 0, INT, LONG)};
    x.make(0);
    for (int have = 0; have <= 3; have++) {
      for (int n = 0; n <= 2; n++) {
        d.due(have + " VALUES for " + n, x.call(h[n], 0), have == n ? 1 : UNLIKE);
      }
      x.value(have, 1, 1);
    }
    x.value(0, 2, 1);
    d.due("a LONG for an INT", x.call(h[1], 0), UNLIKE);
    x.value(1, 2, 1);
    d.due("the first does not FIT", x.call(h[2], 0), UNLIKE);
    x.value(0, 1, 1);
    x.value(1, 0, 1);
    d.due("the second does not FIT", x.call(h[2], 0), UNLIKE);
    x.value(1, 2, 1);
    d.due("both FIT", x.call(h[2], 0), 1);
  }

  private static void doesItself() {
    d.sentence("The METHOD that is done: of a HIDDEN, a STATIC one itself");
    ReflectModels x = new ReflectModels();
    Told.type(x, 0, 0); // 1
    Told.type(x, 1, 0); // 2
    int hidden = Told.handle(x, 1, 0, INT, HIDDEN, 0, 10);
    int stat = Told.handle(x, 1, 1, INT, STATIC, 0, 11);
    Told.method(x, 2, 0, INT, OPEN, 0, 20);
    Told.method(x, 2, 1, INT, OPEN, 0, 21);
    x.make(2);
    x.leave(hidden);
    d.gives("HIDDEN", x, x.call(hidden, 0), 1, 10);
    d.gives("STATIC", x, x.call(stat, 0), 1, 11);
    d.gives("STATIC of NOTHING", x, x.call(stat, NONE), 1, 11);
  }

  private static void doesTheNearest() {
    d.sentence("else of the receiver's class, and those ABOVE it, the nearest with one of the name and TYPES"
        + " that is neither HIDDEN nor STATIC nor ABSTRACT");
    ReflectModels x = new ReflectModels();
    Told.type(x, 0, 2); // 1 FACE
    Told.acting(x, 0, 1, 1); // 2 ABSTRACT, acts as 1
    Told.type(x, 2, 0); // 3
    Told.type(x, 3, 1); // 4 ABSTRACT
    Told.type(x, 4, 0); // 5
    Told.type(x, 5, 0); // 6
    int face = Told.handle(x, 1, 0, INT, ABSTRACT_MARK, 0, 1, INT);
    int two = Told.handle(x, 2, 0, INT, OPEN, 0, 2, INT);
    Told.method(x, 3, 0, INT, HIDDEN, 0, 3, INT);
    Told.method(x, 4, 0, INT, ABSTRACT_MARK, 0, 4, INT);
    Told.method(x, 5, 0, INT, STATIC, 0, 5, INT);
    Told.method(x, 6, 0, INT, OPEN, 0, 6, INT);
    Told.method(x, 5, 0, INT, OPEN, 0, 7);
    Told.method(x, 5, 0, INT, OPEN, 0, 8, LONG);
    Told.method(x, 5, 0, INT, OPEN, 0, 9, INT, INT);
    Told.method(x, 5, 1, INT, OPEN, 0, 10, INT);
    x.make(3); // 0
    x.make(5); // 1
    x.make(6); // 2
    x.value(0, 1, 1);
    for (int h : new int[] {face, two}) {
      d.gives("past a HIDDEN one", x, x.call(h, 0), 1, 2);
      d.gives("past a STATIC, an ABSTRACT one, and such of other names, TYPES", x, x.call(h, 1), 1, 2);
      d.gives("its own", x, x.call(h, 2), 1, 6);
    }
  }

  private static void asksTheHandler() {
    d.sentence("(of a METHOD of a FACE on a PROXY its HANDLER in its place)");
    ReflectModels x = new ReflectModels();
    Told.type(x, 0, 2); // 1 FACE
    Told.type(x, 1, 2); // 2 FACE below 1
    Told.acting(x, 0, 0, 2); // 3
    int above = Told.handle(x, 1, 0, INT, ABSTRACT_MARK, 0, 0);
    int own = Told.handle(x, 2, 1, INT, ABSTRACT_MARK, 0, 0);
    int stat = Told.handle(x, 2, 2, INT, STATIC, 0, 33);
    int root = Told.handle(x, 0, 0, INT, OPEN, 0, 44);
    Told.method(x, 3, 0, INT, OPEN, 0, 55);
    x.proxy(2, 0); // 0
    x.make(3); // 1
    d.gives("of the FACE ABOVE", x, x.call(above, 0), 1, 1);
    d.gives("of the FACE", x, x.call(own, 0), 1, 2);
    d.gives("a STATIC one is done itself", x, x.call(stat, 0), 1, 33);
    d.gives("of the ROOT", x, x.call(root, 0), 1, 44);
    d.gives("the HANDLER was not asked by these", x, x.call(own, 0), 1, 3);
    d.gives("on what is no PROXY", x, x.call(above, 1), 1, 55);
  }

  private static void doesNone() {
    d.sentence("none: WRAPPED, CAUSE 6");
    ReflectModels x = new ReflectModels();
    Told.type(x, 0, 2); // 1 FACE
    Told.acting(x, 0, 1, 1); // 2 ABSTRACT
    Told.type(x, 2, 0); // 3
    int face = Told.handle(x, 1, 0, INT, ABSTRACT_MARK, 0, 7);
    int two = Told.handle(x, 2, 1, VOID, ABSTRACT_MARK, 5, 7);
    Told.method(x, 3, 0, INT, HIDDEN, 0, 8);
    Told.method(x, 3, 1, VOID, STATIC, 0, 8);
    x.make(3);
    d.wrapped("a FACE's", x, x.call(face, 0), 6);
    d.wrapped("an ABSTRACT one's", x, x.call(two, 0), 6);
  }

  private static void throwsWrapped() {
    d.sentence("What a BODY throws: WRAPPED, and that CAUSE");
    ReflectModels x = new ReflectModels();
    Told.type(x, 0, 0);
    int h = Told.handle(x, 0, 0, INT, OPEN, 5, 8);
    Told.method(x, 1, 0, INT, OPEN, 5, 9);
    x.make(0);
    x.make(1);
    d.wrapped("the HANDLE's own", x, x.call(h, 0), 108);
    d.wrapped("the one that is done", x, x.call(h, 1), 109);
  }

  // ---- what is MADE

  private static void makesInOrder() {
    d.sentence("MADE: ABSTRACT (SORTS 1, 2)");
    ReflectModels x = new ReflectModels();
    Told.failing(x, 0, 1); // 1
    Told.failing(x, 0, 2); // 2
    d.due("SORT 1", x.make(1), ABSTRACT);
    d.due("SORT 2", x.make(2), ABSTRACT);
    x.value(0, 1, 1);
    d.due("SORT 1, ahead of UNLIKE", x.make(1), ABSTRACT);
    d.due("SORT 2, ahead of UNLIKE", x.make(2), ABSTRACT);
    x.start(1);
    x.start(2);
    d.due("SORT 1, ahead of NO DEFINITION", x.make(1), ABSTRACT);
    d.due("SORT 2, ahead of NO DEFINITION", x.make(2), ABSTRACT);
    d.due("told(3)", x.told(3), 0);
  }

  private static void makesEnumerations() {
    d.sentence("UNLIKE: an ENUMERATION");
    ReflectModels x = new ReflectModels();
    Told.failing(x, 0, 4); // 1
    Told.type(x, 0, 4); // 2
    x.constants(2, 1);
    d.due("that FAILS", x.make(1), UNLIKE);
    d.due("with CONSTANTS", x.make(2), UNLIKE);
    d.due("they are not STARTED", x.about(1, 3) + x.about(2, 3), 0);
    d.due("told(3)", x.told(3), 0);
    x.value(0, 1, 1);
    d.due("with VALUES", x.make(2), UNLIKE);
  }

  private static void makesRecords() {
    d.sentence("of a RECORD VALUES that are not as many as its FIELDS, or do not FIT them in order");
    ReflectModels x = new ReflectModels();
    for (int fields = 0; fields <= 4; fields++) {
      int c = Told.type(x, 0, 3);
      for (int name = 0; name < fields; name++) {
        Told.recordField(x, c, name, name == 1 ? LONG : INT);
      }
      Told.method(x, c, 0, INT, OPEN, 0, 0);
    }
    int made = 0;
    for (int have = 0; have <= 3; have++) {
      for (int fields = 0; fields <= 4; fields++) {
        d.due(have + " VALUES for " + fields, x.make(1 + fields), have == fields ? made++ : UNLIKE);
      }
      x.value(have, 1, 1);
    }
    x.value(0, 1, 1);
    x.value(1, 2, 1);
    d.due("an INT, a LONG", x.make(3), made++);
    x.value(2, 2, 1);
    d.due("the last does not FIT", x.make(4), UNLIKE);
    x.value(0, 2, 1);
    x.value(1, 1, 1);
    d.due("the first does not FIT", x.make(3), UNLIKE);
    d.due("told(3)", x.told(3), made);
  }

  private static void makesOthers() {
    d.sentence("of others VALUES at all");
    ReflectModels x = new ReflectModels();
    Told.type(x, 0, 0);
    Told.field(x, 1, 0, INT);
    d.due("the ROOT's", x.make(0), 0);
    d.due("PLAIN", x.make(1), 1);
    x.value(0, 1, 1);
    d.due("the ROOT's with VALUES", x.make(0), UNLIKE);
    d.due("PLAIN with as many VALUES as FIELDS", x.make(1), UNLIKE);
    d.due("told(3)", x.told(3), 2);
  }

  private static void startsBehindValues() {
    d.sentence("MADE: .. UNLIKE; STARTED; then it is there");
    ReflectModels x = new ReflectModels();
    Told.failing(x, 0, 3); // 1 RECORD, FAILS
    Told.failing(x, 0, 0); // 2 FAILS
    Told.recordField(x, 1, 0, INT);
    d.due("UNLIKE ahead of START", x.make(1), UNLIKE);
    d.due("about(1, 3)", x.about(1, 3), 0);
    d.due("START", x.make(2), START);
    d.due("NO DEFINITION", x.make(2), NO_DEFINITION);
    x.value(0, 1, 1);
    d.due("UNLIKE ahead of NO DEFINITION", x.make(2), UNLIKE);
    d.due("a RECORD: START", x.make(1), START);
    d.due("it is not there", x.told(3), 0);
  }

  private static void makesFirst() {
    d.sentence("then it is there, all FIELDS FIRST, of a RECORD the VALUES");
    ReflectModels x = new ReflectModels();
    Told.type(x, 0, 0); // 1
    Told.type(x, 1, 0); // 2
    Told.type(x, 0, 3); // 3 RECORD
    Told.field(x, 1, 0, INT);
    Told.field(x, 2, 0, 0);
    Told.recordField(x, 3, 0, LONG);
    Told.recordField(x, 3, 1, 1);
    x.make(2); // 0
    int above = x.findField(1, 0, false);
    int own = x.findField(2, 0, false);
    d.gives("of that ABOVE", x, x.get(above, 0, 0), 1, 0);
    d.gives("its own", x, x.get(own, 0, 0), 0, 0);
    x.value(0, 1, -3);
    x.set(above, 0);
    x.value(1, 3, 0);
    d.due("a RECORD", x.make(3), 1);
    int first = x.findField(3, 0, false);
    int second = x.findField(3, 1, false);
    d.gives("an INT is WIDENED", x, x.get(first, 1, 0), 2, -3);
    d.gives("an OBJECT", x, x.get(second, 1, 0), 3, 0);
    x.value(0, 2, Long.MAX_VALUE);
    x.value(1, 0, 7);
    d.due("another RECORD", x.make(3), 2);
    d.gives("a LONG", x, x.get(first, 2, 0), 2, Long.MAX_VALUE);
    d.gives("NOTHING", x, x.get(second, 2, 0), 0, 0);
    d.gives("the first RECORD keeps its own", x, x.get(first, 1, 0), 2, -3);
  }

  // ---- OBJECTS

  private static void sixtyObjects() {
    d.sentence("OBJECTS are numbered from 0 as they come (60 by make(), proxy())");
    ReflectModels x = new ReflectModels();
    Told.type(x, 0, 2);
    for (int o = 0; o < 60; o++) {
      d.due("OBJECT " + o, o % 2 == 0 ? x.make(0) : x.proxy(1, 0), o);
    }
    d.due("a 61st by make()", x.make(0), FULL);
    d.due("a 61st by proxy()", x.proxy(1, 0), FULL);
    d.due("told(3)", x.told(3), 60);
    d.due("is(59, 1)", x.is(59, 1), 1);
    d.due("is(60, 0)", x.is(60, 0), UNKNOWN);
    d.due("value(0, 3, 59)", x.value(0, 3, 59), 1);
    d.due("value(0, 3, 60)", x.value(0, 3, 60), UNKNOWN);
  }

  private static void constantsInAnyCase() {
    d.sentence("CONSTANTS come in any case");
    ReflectModels x = new ReflectModels();
    for (int c = 1; c <= 15; c++) {
      Told.type(x, 0, 4);
      x.constants(c, 4);
    }
    for (int o = 0; o < 60; o++) {
      x.make(0);
    }
    for (int c = 1; c <= 15; c++) {
      d.due("constant(" + c + ", 0)", x.constant(c, 0), 60 + 4 * (c - 1));
    }
    d.due("told(3)", x.told(3), 120);
    d.due("is(119, 15)", x.is(119, 15), 1);
    d.due("is(120, 15)", x.is(120, 15), UNKNOWN);
    d.due("make(0)", x.make(0), FULL);
  }

  private static void constantsInOrder() {
    d.sentence("AN ENUMERATION has CONSTANTS (OBJECTS, made by its START, in order)");
    ReflectModels x = new ReflectModels();
    Told.type(x, 0, 2); // 1 FACE
    Told.acting(x, 0, 4, 1); // 2
    Told.type(x, 0, 4); // 3
    Told.field(x, 2, 0, LONG);
    x.constants(2, 3);
    x.constants(3, 2);
    d.due("none ahead of its START", x.told(3), 0);
    d.due("start(3)", x.start(3), 1);
    d.due("two", x.told(3), 2);
    d.due("start(2)", x.start(2), 1);
    d.due("and three", x.told(3), 5);
    int h = x.findField(2, 0, false);
    for (int i = 0; i < 3; i++) {
      d.due("constant(2, " + i + ")", x.constant(2, i), 2 + i);
      d.due("is(" + (2 + i) + ", 2)", x.is(2 + i, 2), 1);
      d.due("is(" + (2 + i) + ", 1)", x.is(2 + i, 1), 1);
      d.gives("its FIELD is FIRST", x, x.get(h, 2 + i, 0), 2, 0);
    }
    d.due("constant(3, 1)", x.constant(3, 1), 1);
    d.due("is(1, 2)", x.is(1, 2), 0);
  }

  private static void proxiesAreOfTheRoot() {
    d.sentence("A PROXY is an OBJECT of the ROOT that ACTS as one FACE");
    ReflectModels x = new ReflectModels();
    Told.failing(x, 0, 2); // 1 FACE, FAILS
    Told.type(x, 1, 2); // 2 FACE below 1
    Told.type(x, 2, 2); // 3 FACE below 2
    Told.type(x, 0, 2); // 4 FACE
    Told.acting(x, 0, 0, 2); // 5
    d.due("proxy(2, 0)", x.proxy(2, 0), 0);
    int[] of = {1, 1, 1, 0, 0, 0};
    for (int c = 0; c < of.length; c++) {
      d.due("is(0, " + c + ")", x.is(0, c), of[c]);
      d.due("about(" + c + ", 3)", x.about(c, 3), 0);
    }
  }

  private static void handlerCounts() {
    d.sentence("a HANDLER: 0 gives how often it was asked (from 1; an INT)");
    ReflectModels x = new ReflectModels();
    Told.type(x, 0, 2);
    int one = Told.handle(x, 1, 0, INT, ABSTRACT_MARK, 0, 0);
    int two = Told.handle(x, 1, 1, LONG, ABSTRACT_MARK, 0, 0);
    x.proxy(1, 0);
    x.proxy(1, 0);
    for (int i = 1; i <= 6; i += 2) {
      d.gives("asked " + i + " times", x, x.call(one, 0), 1, i);
      d.gives("asked " + (i + 1) + " times, by another METHOD", x, x.call(two, 0), 2, i + 1);
    }
    d.due("not asked of NOTHING", x.call(one, NONE), NOTHING);
    d.gives("each counts its own", x, x.call(one, 1), 1, 1);
    d.gives("asked 7 times", x, x.call(one, 0), 1, 7);
  }

  private static void handlerNothing() {
    d.sentence("1 NOTHING");
    ReflectModels x = new ReflectModels();
    Told.type(x, 0, 2);
    int asClass = Told.handle(x, 1, 0, 1, ABSTRACT_MARK, 0, 0, INT);
    int asInt = Told.handle(x, 1, 1, INT, ABSTRACT_MARK, 0, 0, INT);
    x.proxy(1, 1);
    x.value(0, 1, 5);
    d.gives("for a class", x, x.call(asClass, 0), 0, 0);
    d.wrapped("for an INT", x, x.call(asInt, 0), 3);
  }

  private static void handlerFails() {
    d.sentence("2 fails by its own number 7");
    ReflectModels x = new ReflectModels();
    Told.type(x, 0, 2);
    int h = Told.handle(x, 1, 0, VOID, ABSTRACT_MARK, 5, 9);
    x.proxy(1, 2);
    d.wrapped("CAUSE 107", x, x.call(h, 0), 107);
    d.wrapped("again", x, x.call(h, 0), 107);
  }

  private static void handlerFirst() {
    d.sentence("3 the first VALUE (NOTHING without one)");
    ReflectModels x = new ReflectModels();
    Told.type(x, 0, 2);
    int none = Told.handle(x, 1, 0, 0, ABSTRACT_MARK, 0, 0);
    int noneAsInt = Told.handle(x, 1, 1, INT, ABSTRACT_MARK, 0, 0);
    int one = Told.handle(x, 1, 0, INT, ABSTRACT_MARK, 0, 0, INT);
    int two = Told.handle(x, 1, 0, LONG, ABSTRACT_MARK, 0, 0, INT, LONG);
    int object = Told.handle(x, 1, 0, 1, ABSTRACT_MARK, 0, 0, 0);
    x.proxy(1, 3);
    x.make(0);
    d.gives("without one", x, x.call(none, 0), 0, 0);
    d.wrapped("without one, for an INT", x, x.call(noneAsInt, 0), 3);
    x.value(0, 1, Integer.MIN_VALUE);
    d.gives("an INT", x, x.call(one, 0), 1, Integer.MIN_VALUE);
    x.value(1, 2, Long.MAX_VALUE);
    d.gives("the first of two, WIDENED", x, x.call(two, 0), 2, Integer.MIN_VALUE);
    x.value(0, 3, 0);
    d.gives("itself", x, x.call(object, 0), 3, 0);
    x.value(0, 3, 1);
    d.wrapped("an OBJECT that is not OF the class", x, x.call(object, 0), 2);
    x.value(0, 0, 0);
    d.gives("NOTHING", x, x.call(object, 0), 0, 0);
  }
}
