/** Promises 13, 15 and 20: call, proxy, cause (and 18, 19 behind call). */
public final class CallsTest {
  private static final int NONE = -1, UNKNOWN = -2, OUTSIDE = -3, STATE = -4, FULL = -5;
  private static final int NO_LEAVE = -12, UNLIKE = -13, NOTHING = -14, START = -18, NO_DEFINITION = -19;
  private static final int INT = -1, LONG = -2, VOID = -3;
  private static final Due d = new Due();

  public static void main(String[] args) {
    refusedCalls();
    orderOfFailures();
    staticCalls();
    valuesOfCalls();
    givesNumbers();
    divides();
    casts();
    readsFields();
    picksItems();
    failsByItsOwn();
    givesTheReceiver();
    stores();
    givesWhatDoesNotFit();
    choosesByTheReceiver();
    fitsTheHandleToo();
    proxies();
    proxiesCount();
    proxiesEcho();
    proxiesGiveWhatFits();
    refusedProxies();
    failedCallClearsTheResult();
    d.end();
  }

  /** A HANDLE of a METHOD that stands in class c alone with this name. */
  private static int told(ReflectModels x, int c, int name, int n, int first, int second, int gives, int marks, int body, int b) {
    x.method(c, name, n, first, second, gives, marks, body, b);
    return x.findMethod(c, name, n, first, second, false);
  }

  private static void gives(String call, ReflectModels x, int h, int receiver, int kind, long number) {
    d.due(call, x.call(h, receiver), 1);
    d.result(call, x, kind, number);
  }

  private static void refusedCalls() {
    ReflectModels x = new ReflectModels();
    int h = told(x, 0, 0, 0, 0, 0, INT, 0, 0, 4);
    x.field(0, 0, INT, true, false, false);
    int f = x.findField(0, 0, false);
    x.make(0);
    d.due("HANDLE 2", x.call(2, 0), UNKNOWN);
    d.due("HANDLE -1", x.call(-1, 0), UNKNOWN);
    d.due("OBJECT 1", x.call(h, 1), UNKNOWN);
    d.due("OBJECT -2", x.call(h, -2), UNKNOWN);
    d.due("UNKNOWN ahead of STATE", x.call(f, 1), UNKNOWN);
    d.due("a FIELD", x.call(f, 0), STATE);
    d.due("told(5)", x.told(5), 0);
    gives("the ROOT's", x, h, 0, 1, 4);
  }

  private static void orderOfFailures() {
    ReflectModels x = new ReflectModels();
    x.type(0, 0, NONE, false, false); // 1
    x.type(0, 0, NONE, false, true); // 2 FAILS
    int hidden = told(x, 1, 0, 0, 0, 0, INT, 4, 0, 3);
    int open = told(x, 1, 1, 0, 0, 0, INT, 0, 0, 4);
    int fails = told(x, 2, 0, 0, 0, 0, INT, 1, 0, 5);
    int hiddenFails = told(x, 2, 1, 0, 0, 0, INT, 5, 0, 5);
    x.make(0); // 0
    x.make(1); // 1
    x.value(0, 1, 1);
    d.due("NO LEAVE ahead of NOTHING", x.call(hidden, NONE), NO_LEAVE);
    d.due("told(5)", x.told(5), 2);
    d.due("NOTHING ahead of UNLIKE", x.call(open, NONE), NOTHING);
    d.due("UNLIKE of the receiver", x.call(open, 0), UNLIKE);
    d.due("UNLIKE of VALUES", x.call(open, 1), UNLIKE);
    d.due("STATIC: UNLIKE ahead of START", x.call(fails, NONE), UNLIKE);
    d.due("about(2, 3)", x.about(2, 3), 0);
    d.due("STATIC: NO LEAVE ahead of UNLIKE", x.call(hiddenFails, NONE), NO_LEAVE);
    d.due("cause() of none", x.cause(), 0);
    ReflectModels y = new ReflectModels();
    y.type(0, 0, NONE, false, true);
    fails = told(y, 1, 0, 0, 0, 0, INT, 1, 0, 5);
    d.due("START", y.call(fails, NONE), START);
    d.due("NO DEFINITION", y.call(fails, NONE), NO_DEFINITION);
    d.due("told(5)", y.told(5), 9);
  }

  private static void staticCalls() {
    ReflectModels x = new ReflectModels();
    x.type(0, 0, NONE, false, false); // 1
    x.type(1, 0, NONE, false, false); // 2
    int h = told(x, 1, 0, 0, 0, 0, INT, 1, 0, 5);
    told(x, 2, 0, 0, 0, 0, INT, 1, 0, 6);
    int hidden = told(x, 1, 1, 0, 0, 0, INT, 4, 0, 7);
    told(x, 2, 1, 0, 0, 0, INT, 0, 0, 8);
    x.make(0); // 0
    d.due("about(1, 3)", x.about(1, 3), 0);
    gives("without a receiver", x, h, NONE, 1, 5);
    d.due("it is STARTED", x.about(1, 3), 1);
    d.due("that below is not", x.about(2, 3), 0);
    gives("of any receiver", x, h, 0, 1, 5);
    x.make(2); // 1
    gives("of itself, not by the receiver", x, h, 1, 1, 5);
    x.leave(hidden);
    gives("HIDDEN: itself", x, hidden, 1, 1, 7);
  }

  private static void valuesOfCalls() {
    ReflectModels x = new ReflectModels();
    x.type(0, 0, NONE, false, false); // 1
    int none = told(x, 1, 0, 0, 0, 0, INT, 1, 0, 1);
    int ofInt = told(x, 1, 0, 1, INT, 0, INT, 1, 0, 1);
    int ofLong = told(x, 1, 0, 1, LONG, 0, INT, 1, 0, 1);
    int ofClass = told(x, 1, 0, 1, 1, 0, INT, 1, 0, 1);
    int ofTwo = told(x, 1, 0, 2, 1, LONG, INT, 1, 0, 1);
    x.make(0); // 0
    x.make(1); // 1
    d.due("none of none", x.call(none, NONE), 1);
    d.due("none of one", x.call(ofInt, NONE), UNLIKE);
    int[][] due = {
      {UNLIKE, UNLIKE, UNLIKE, 1}, {UNLIKE, 1, 1, UNLIKE}, {UNLIKE, UNLIKE, 1, UNLIKE},
      {UNLIKE, UNLIKE, UNLIKE, UNLIKE}, {UNLIKE, UNLIKE, UNLIKE, 1}};
    int[] kinds = {0, 1, 2, 3, 3};
    long[] numbers = {0, 1, 1, 0, 1};
    int[] handles = {none, ofInt, ofLong, ofClass};
    for (int i = 0; i < kinds.length; i++) {
      x.value(0, kinds[i], numbers[i]);
      for (int h = 0; h < handles.length; h++) {
        d.due("VALUE " + i + " for HANDLE " + h, x.call(handles[h], NONE), due[i][h]);
      }
      d.due("one of two", x.call(ofTwo, NONE), UNLIKE);
    }
    x.value(1, 1, 3);
    d.due("two, the second WIDENED", x.call(ofTwo, NONE), 1);
    d.due("two of one", x.call(ofClass, NONE), UNLIKE);
    x.value(1, 0, 3);
    d.due("the second does not FIT", x.call(ofTwo, NONE), UNLIKE);
    x.value(0, 3, 0);
    x.value(1, 2, 3);
    d.due("the first does not FIT", x.call(ofTwo, NONE), UNLIKE);
    x.value(0, 0, 0);
    x.value(1, 2, 3);
    d.due("two", x.call(ofTwo, NONE), 1);
    x.value(2, 2, 3);
    d.due("three of two", x.call(ofTwo, NONE), UNLIKE);
  }

  private static void givesNumbers() {
    ReflectModels x = new ReflectModels();
    int asInt = told(x, 0, 0, 0, 0, 0, INT, 1, 0, -7);
    int asLong = told(x, 0, 1, 0, 0, 0, LONG, 1, 0, Integer.MIN_VALUE);
    int asClass = told(x, 0, 2, 0, 0, 0, 0, 1, 0, 7);
    int asVoid = told(x, 0, 3, 0, 0, 0, VOID, 1, 0, 7);
    gives("INT", x, asInt, NONE, 1, -7);
    gives("LONG", x, asLong, NONE, 2, Integer.MIN_VALUE);
    gives("class", x, asClass, NONE, 0, 0);
    gives("VOID", x, asVoid, NONE, 0, 0);
  }

  private static void divides() {
    ReflectModels x = new ReflectModels();
    int h = told(x, 0, 0, 2, INT, INT, INT, 1, 1, 0);
    int asLong = told(x, 0, 1, 2, INT, INT, LONG, 1, 1, 0);
    x.value(0, 1, -7);
    x.value(1, 1, 2);
    gives("-7 by 2", x, h, NONE, 1, -3);
    gives("-7 by 2, WIDENED", x, asLong, NONE, 2, -3);
    x.value(1, 1, 0);
    d.wrapped("-7 by 0", x, x.call(h, NONE), 1);
    x.value(0, 1, Integer.MIN_VALUE);
    x.value(1, 1, -1);
    gives("least by -1", x, h, NONE, 1, Integer.MIN_VALUE);
    gives("least by -1, WIDENED", x, asLong, NONE, 2, Integer.MIN_VALUE);
    d.due("cause() stays", x.cause(), 1);
    d.due("told(5) stays", x.told(5), 6);
  }

  private static void casts() {
    ReflectModels x = new ReflectModels();
    x.type(0, 2, NONE, false, false); // 1 FACE
    x.type(0, 0, 1, false, false); // 2 acts as 1
    x.type(2, 0, NONE, false, false); // 3 below 2
    int toFace = told(x, 0, 0, 1, 0, 0, 0, 1, 2, 1);
    int toTwo = told(x, 0, 1, 1, 0, 0, 0, 1, 2, 2);
    int toThree = told(x, 0, 2, 1, 0, 0, 0, 1, 2, 3);
    x.make(0); // 0
    x.make(2); // 1
    x.make(3); // 2
    x.proxy(1, 0); // 3
    x.value(0, 0, 0);
    gives("NOTHING", x, toTwo, NONE, 0, 0);
    x.value(0, 3, 0);
    d.wrapped("the ROOT's to a FACE", x, x.call(toFace, NONE), 2);
    d.wrapped("the ROOT's to 2", x, x.call(toTwo, NONE), 2);
    x.value(0, 3, 1);
    gives("2 to its FACE", x, toFace, NONE, 3, 1);
    gives("2 to 2", x, toTwo, NONE, 3, 1);
    d.wrapped("2 to 3", x, x.call(toThree, NONE), 2);
    x.value(0, 3, 2);
    gives("3 to the FACE of that ABOVE", x, toFace, NONE, 3, 2);
    gives("3 to 2", x, toTwo, NONE, 3, 2);
    x.value(0, 3, 3);
    gives("a PROXY to its FACE", x, toFace, NONE, 3, 3);
    d.wrapped("a PROXY to 2", x, x.call(toTwo, NONE), 2);
  }

  private static void readsFields() {
    ReflectModels x = new ReflectModels();
    x.type(0, 0, NONE, false, false); // 1
    x.type(1, 0, NONE, false, false); // 2
    x.field(1, 0, INT, false, false, true); // 0, HIDDEN
    x.field(2, 1, 1, false, false, false); // 1
    x.field(2, 2, LONG, false, false, false); // 2
    int readsInt = told(x, 0, 0, 1, 0, 0, INT, 1, 3, 0);
    int readsClass = told(x, 0, 1, 1, 0, 0, 0, 1, 3, 1);
    int readsLong = told(x, 0, 2, 1, 0, 0, LONG, 1, 3, 2);
    int readsLongAsInt = told(x, 0, 3, 1, 0, 0, INT, 1, 3, 2);
    int readsIntAsLong = told(x, 0, 4, 1, 0, 0, LONG, 1, 3, 0);
    x.make(1); // 0
    x.make(2); // 1
    int f = x.findField(1, 0, false);
    int g = x.findField(2, 1, false);
    x.leave(f);
    x.value(0, 1, 31);
    x.set(f, 1);
    x.value(0, 0, 0);
    d.wrapped("of NOTHING", x, x.call(readsInt, NONE), 3);
    x.value(0, 3, 0);
    gives("INT of 0", x, readsInt, NONE, 1, 0);
    d.wrapped("a FIELD of one below", x, x.call(readsClass, NONE), 2);
    x.set(g, 1);
    x.value(0, 3, 1);
    gives("INT of 1", x, readsInt, NONE, 1, 31);
    gives("INT of 1, WIDENED", x, readsIntAsLong, NONE, 2, 31);
    gives("class of 1", x, readsClass, NONE, 3, 0);
    gives("LONG of 1", x, readsLong, NONE, 2, 0);
    d.wrapped("LONG as INT", x, x.call(readsLongAsInt, NONE), 2);
  }

  private static void picksItems() {
    ReflectModels x = new ReflectModels();
    int h = told(x, 0, 0, 1, INT, 0, INT, 1, 4, -1);
    int wraps = told(x, 0, 1, 1, INT, 0, LONG, 1, 4, Integer.MAX_VALUE);
    for (int i = 0; i < 3; i++) {
      x.value(0, 1, i);
      gives("item " + i, x, h, NONE, 1, i - 1);
    }
    x.value(0, 1, 2);
    gives("an INT beyond its bounds comes round", x, wraps, NONE, 2, Integer.MIN_VALUE + 1);
    x.value(0, 1, 3);
    d.wrapped("item 3", x, x.call(h, NONE), 4);
    x.value(0, 1, -1);
    d.wrapped("item -1", x, x.call(h, NONE), 4);
    x.value(0, 1, Integer.MIN_VALUE);
    d.wrapped("item of the least INT", x, x.call(h, NONE), 4);
  }

  private static void failsByItsOwn() {
    ReflectModels x = new ReflectModels();
    int zero = told(x, 0, 0, 0, 0, 0, VOID, 1, 5, 0);
    int last = told(x, 0, 1, 0, 0, 0, INT, 1, 5, 99);
    d.wrapped("0", x, x.call(zero, NONE), 100);
    d.wrapped("99", x, x.call(last, NONE), 199);
  }

  private static void givesTheReceiver() {
    ReflectModels x = new ReflectModels();
    x.type(0, 2, NONE, false, false); // 1 FACE
    x.type(0, 0, NONE, false, false); // 2
    int h = told(x, 0, 0, 0, 0, 0, 0, 0, 6, 0);
    int asTwo = told(x, 0, 1, 0, 0, 0, 2, 0, 6, 0);
    int asInt = told(x, 0, 2, 0, 0, 0, INT, 0, 6, 0);
    int asVoid = told(x, 0, 3, 0, 0, 0, VOID, 0, 6, 0);
    x.make(0); // 0
    x.make(2); // 1
    x.proxy(1, 2); // 2
    gives("the ROOT's", x, h, 0, 3, 0);
    gives("2's", x, h, 1, 3, 1);
    gives("a PROXY by a METHOD of the ROOT", x, h, 2, 3, 2);
    gives("2's as 2", x, asTwo, 1, 3, 1);
    d.wrapped("the ROOT's as 2", x, x.call(asTwo, 0), 2);
    d.wrapped("as INT", x, x.call(asInt, 0), 2);
    gives("as VOID", x, asVoid, 0, 0, 0);
  }

  private static void stores() {
    ReflectModels x = new ReflectModels();
    x.type(0, 0, NONE, false, false); // 1
    x.type(1, 0, NONE, false, false); // 2
    int[] kinds = {1, 2, 0, 0};
    int[] h = new int[4];
    int[] types = {INT, LONG, VOID, 1};
    for (int i = 0; i < 4; i++) {
      h[i] = told(x, 0, i, 1, 0, 0, types[i], 1, 7, 1);
    }
    x.make(0); // 0
    x.make(1); // 1
    x.make(2); // 2
    for (int i = 0; i < 4; i++) {
      x.value(0, 0, 0);
      gives("NOTHING, gives " + types[i], x, h[i], NONE, kinds[i], 0);
      x.value(0, 3, 1);
      gives("1, gives " + types[i], x, h[i], NONE, kinds[i], 0);
      x.value(0, 3, 2);
      gives("2, gives " + types[i], x, h[i], NONE, kinds[i], 0);
      x.value(0, 3, 0);
      d.wrapped("0, gives " + types[i], x, x.call(h[i], NONE), 5);
    }
  }

  private static void givesWhatDoesNotFit() {
    ReflectModels x = new ReflectModels();
    x.type(0, 0, NONE, false, false); // 1
    int intAsClass = told(x, 0, 0, 1, INT, 0, 0, 1, 4, 5);
    int classAsInt = told(x, 0, 1, 1, 0, 0, INT, 1, 2, 0);
    int classAsLong = told(x, 0, 2, 1, 0, 0, LONG, 1, 2, 0);
    int rootAsOne = told(x, 0, 3, 1, 0, 0, 1, 1, 2, 0);
    int intAsVoid = told(x, 0, 4, 1, INT, 0, VOID, 1, 4, 5);
    x.make(0);
    x.value(0, 1, 0);
    d.wrapped("INT as a class", x, x.call(intAsClass, NONE), 2);
    gives("INT as VOID", x, intAsVoid, NONE, 0, 0);
    x.value(0, 3, 0);
    d.wrapped("OBJECT as INT", x, x.call(classAsInt, NONE), 2);
    d.wrapped("OBJECT as LONG", x, x.call(classAsLong, NONE), 2);
    d.wrapped("OBJECT of the ROOT as 1", x, x.call(rootAsOne, NONE), 2);
    x.value(0, 0, 0);
    d.wrapped("NOTHING as INT", x, x.call(classAsInt, NONE), 3);
    d.wrapped("NOTHING as LONG", x, x.call(classAsLong, NONE), 3);
    gives("NOTHING as 1", x, rootAsOne, NONE, 0, 0);
  }

  private static void choosesByTheReceiver() {
    ReflectModels x = new ReflectModels();
    x.type(0, 2, NONE, false, false); // 1 FACE
    x.type(0, 1, 1, false, false); // 2 ABSTRACT
    x.type(2, 0, NONE, false, false); // 3 below 2
    x.type(3, 0, NONE, false, false); // 4 below 3
    x.type(4, 1, NONE, false, false); // 5 ABSTRACT below 4
    x.type(5, 0, NONE, false, false); // 6 below 5
    x.type(2, 0, NONE, false, false); // 7 below 2, has none
    int face = told(x, 1, 0, 0, 0, 0, INT, 2, 0, 10);
    int abstr = told(x, 2, 0, 0, 0, 0, INT, 2, 0, 20);
    int three = told(x, 3, 0, 0, 0, 0, INT, 0, 0, 30);
    int four = told(x, 4, 0, 0, 0, 0, INT, 4, 0, 40); // HIDDEN
    told(x, 5, 0, 0, 0, 0, INT, 2, 0, 50);
    told(x, 6, 0, 0, 0, 0, INT, 1, 0, 60); // STATIC
    told(x, 4, 0, 1, INT, 0, INT, 0, 0, 41); // other TYPES
    told(x, 4, 1, 0, 0, 0, INT, 0, 0, 42); // another name
    x.make(3); // 0
    x.make(4); // 1
    x.make(6); // 2
    x.make(7); // 3
    for (int h : new int[] {face, abstr, three}) {
      gives("HANDLE " + h + " of 3", x, h, 0, 1, 30);
      gives("HANDLE " + h + " of 4, past a HIDDEN one", x, h, 1, 1, 30);
      gives("HANDLE " + h + " of 6, past STATIC, ABSTRACT ones", x, h, 2, 1, 30);
    }
    d.wrapped("none, of the FACE", x, x.call(face, 3), 6);
    d.wrapped("none, of the ABSTRACT one", x, x.call(abstr, 3), 6);
    d.due("7 is not OF 3", x.call(three, 3), UNLIKE);
    x.leave(four);
    gives("a HIDDEN one itself", x, four, 2, 1, 40);
    d.due("3 is not OF 4", x.call(four, 0), UNLIKE);
    ReflectModels y = new ReflectModels();
    y.type(0, 0, NONE, false, false);
    int root = told(y, 0, 0, 0, 0, 0, INT, 0, 0, 1);
    told(y, 1, 0, 0, 0, 0, INT, 0, 0, 2);
    y.make(0);
    y.make(1);
    gives("the ROOT's of 0", y, root, 0, 1, 1);
    gives("the ROOT's of 1", y, root, 1, 1, 2);
  }

  private static void fitsTheHandleToo() {
    ReflectModels x = new ReflectModels();
    x.type(0, 0, NONE, false, false); // 1
    x.type(1, 0, NONE, false, false); // 2
    int[] above = {INT, LONG, 1, VOID};
    int[] below = {INT, LONG, 0, VOID};
    int[][] causes = {{0, 2, 3, 3}, {0, 0, 3, 3}, {2, 2, 0, 0}, {0, 0, 0, 0}};
    int[][] kinds = {{1, 0, 0, 0}, {2, 2, 0, 0}, {0, 0, 0, 0}, {0, 0, 0, 0}};
    int[][] h = new int[4][4];
    for (int i = 0; i < 4; i++) {
      for (int j = 0; j < 4; j++) {
        int name = 4 * i + j;
        h[i][j] = told(x, 1, name, 0, 0, 0, above[i], 0, 0, 1);
        x.method(2, name, 0, 0, 0, below[j], 0, 0, 8);
      }
    }
    x.method(1, 16, 0, 0, 0, 1, 0, 0, 0);
    x.method(2, 16, 0, 0, 0, 0, 0, 6, 0);
    int self = x.findMethod(1, 16, 0, 0, 0, false);
    int throwing = told(x, 1, 17, 0, 0, 0, VOID, 0, 0, 0);
    x.method(2, 17, 0, 0, 0, VOID, 0, 5, 20);
    x.make(2);
    for (int i = 0; i < 4; i++) {
      for (int j = 0; j < 4; j++) {
        String call = "done gives " + below[j] + ", HANDLE's " + above[i];
        if (causes[i][j] != 0) {
          d.wrapped(call, x, x.call(h[i][j], 0), causes[i][j]);
        } else {
          gives(call, x, h[i][j], 0, kinds[i][j], kinds[i][j] == 0 ? 0 : 8);
        }
      }
    }
    gives("an OBJECT that FITS both", x, self, 0, 3, 0);
    d.wrapped("the one that is done throws", x, x.call(throwing, 0), 120);
  }

  private static void proxies() {
    ReflectModels x = new ReflectModels();
    x.type(0, 2, NONE, false, true); // 1 FACE, FAILS
    x.type(1, 2, NONE, false, false); // 2 FACE below 1
    x.type(0, 2, NONE, false, false); // 3 FACE
    int above = told(x, 1, 0, 0, 0, 0, 0, 2, 0, 0);
    int other = told(x, 3, 0, 0, 0, 0, 0, 2, 0, 0);
    int root = told(x, 0, 0, 0, 0, 0, INT, 0, 0, 77);
    int stat = told(x, 2, 1, 0, 0, 0, INT, 1, 0, 78);
    int hidden = told(x, 0, 1, 0, 0, 0, INT, 4, 0, 79);
    int abstr = told(x, 2, 2, 0, 0, 0, VOID, 2, 0, 0);
    d.due("a FACE that FAILS is not STARTED", x.proxy(2, 2), 0);
    d.due("another one", x.proxy(2, 1), 1);
    d.due("about(0, 3)", x.about(0, 3), 0);
    d.due("about(2, 3)", x.about(2, 3), 0);
    d.wrapped("HANDLER 2, a METHOD of the FACE ABOVE", x, x.call(above, 0), 107);
    gives("HANDLER 1", x, above, 1, 0, 0);
    gives("HANDLER 1, VOID", x, abstr, 1, 0, 0);
    d.wrapped("HANDLER 2, VOID", x, x.call(abstr, 0), 107);
    d.due("a FACE that it does not act as", x.call(other, 0), UNLIKE);
    gives("the ROOT's own METHOD", x, root, 0, 1, 77);
    x.leave(hidden);
    gives("the ROOT's HIDDEN METHOD", x, hidden, 0, 1, 79);
    d.due("a STATIC one STARTS", x.call(stat, 0), START);
    d.due("is(0, 0)", x.is(0, 0), 1);
    d.due("is(0, 1)", x.is(0, 1), 1);
    d.due("is(0, 2)", x.is(0, 2), 1);
    d.due("is(0, 3)", x.is(0, 3), 0);
    ReflectModels y = new ReflectModels();
    y.type(0, 2, NONE, false, false);
    stat = told(y, 1, 0, 0, 0, 0, INT, 1, 0, 80);
    y.proxy(1, 2);
    gives("a STATIC METHOD of its FACE itself", y, stat, 0, 1, 80);
  }

  private static void proxiesCount() {
    ReflectModels x = new ReflectModels();
    x.type(0, 2, NONE, false, false); // 1 FACE
    int asInt = told(x, 1, 0, 0, 0, 0, INT, 2, 0, 0);
    int asLong = told(x, 1, 1, 0, 0, 0, LONG, 2, 0, 0);
    int asVoid = told(x, 1, 2, 0, 0, 0, VOID, 2, 0, 0);
    int asClass = told(x, 1, 3, 0, 0, 0, 0, 2, 0, 0);
    int ofInt = told(x, 1, 4, 1, INT, 0, INT, 2, 0, 0);
    x.proxy(1, 0); // 0
    x.proxy(1, 0); // 1
    gives("first", x, asInt, 0, 1, 1);
    gives("second, WIDENED", x, asLong, 0, 2, 2);
    gives("third, VOID", x, asVoid, 0, 0, 0);
    d.wrapped("fourth, a class", x, x.call(asClass, 0), 2);
    d.due("not asked: VALUES", x.call(ofInt, 0), UNLIKE);
    d.due("not asked: NOTHING", x.call(asInt, NONE), NOTHING);
    gives("fifth", x, asInt, 0, 1, 5);
    gives("each PROXY counts alone", x, asInt, 1, 1, 1);
  }

  private static void proxiesEcho() {
    ReflectModels x = new ReflectModels();
    x.type(0, 2, NONE, false, false); // 1 FACE
    int none = told(x, 1, 0, 0, 0, 0, 0, 2, 0, 0);
    int noneAsInt = told(x, 1, 1, 0, 0, 0, INT, 2, 0, 0);
    int ofInt = told(x, 1, 2, 1, INT, 0, LONG, 2, 0, 0);
    int ofLong = told(x, 1, 3, 1, LONG, 0, LONG, 2, 0, 0);
    int ofLongAsInt = told(x, 1, 4, 1, LONG, 0, INT, 2, 0, 0);
    int ofTwo = told(x, 1, 5, 2, 0, INT, 0, 2, 0, 0);
    int ofClassAsInt = told(x, 1, 6, 1, 0, 0, INT, 2, 0, 0);
    x.proxy(1, 3); // 0
    gives("without one", x, none, 0, 0, 0);
    d.wrapped("without one, as INT", x, x.call(noneAsInt, 0), 3);
    x.value(0, 1, -9);
    gives("INT as LONG", x, ofInt, 0, 2, -9);
    gives("INT for LONG", x, ofLong, 0, 2, -9);
    d.wrapped("INT for LONG is WIDENED, and no INT then", x, x.call(ofLongAsInt, 0), 2);
    gives("the VALUE itself stays an INT", x, ofInt, 0, 2, -9);
    x.value(0, 3, 0);
    d.wrapped("an OBJECT as INT", x, x.call(ofClassAsInt, 0), 2);
    x.value(1, 1, 4);
    gives("the first of two", x, ofTwo, 0, 3, 0);
    x.value(0, 0, 0);
    d.wrapped("NOTHING as INT", x, x.call(ofClassAsInt, 0), 3);
  }

  private static void proxiesGiveWhatFits() {
    ReflectModels x = new ReflectModels();
    x.type(0, 2, NONE, false, false); // 1 FACE
    x.type(0, 2, NONE, false, false); // 2 FACE
    int asOne = told(x, 1, 0, 1, 0, 0, 1, 2, 0, 0);
    int asTwo = told(x, 1, 1, 1, 0, 0, 2, 2, 0, 0);
    int asLong = told(x, 1, 2, 0, 0, 0, LONG, 2, 0, 0);
    x.proxy(1, 3); // 0
    x.proxy(1, 1); // 1
    d.wrapped("NOTHING as LONG", x, x.call(asLong, 1), 3);
    x.value(0, 3, 0);
    gives("a PROXY as its FACE", x, asOne, 0, 3, 0);
    d.wrapped("a PROXY as another FACE", x, x.call(asTwo, 0), 2);
  }

  private static void refusedProxies() {
    ReflectModels x = new ReflectModels();
    x.type(0, 2, NONE, false, false); // 1 FACE
    x.type(0, 1, 1, false, false); // 2
    d.due("class 3", x.proxy(3, 0), UNKNOWN);
    d.due("class -1", x.proxy(-1, 9), UNKNOWN);
    d.due("HANDLER -1", x.proxy(1, -1), OUTSIDE);
    d.due("HANDLER 4", x.proxy(1, 4), OUTSIDE);
    d.due("OUTSIDE ahead of STATE", x.proxy(2, 4), OUTSIDE);
    d.due("the ROOT", x.proxy(0, 0), STATE);
    d.due("an ABSTRACT one", x.proxy(2, 0), STATE);
    d.due("told(3)", x.told(3), 0);
    for (int i = 0; i < 60; i++) {
      d.due("PROXY " + i, x.proxy(1, i % 4), i);
    }
    d.due("STATE ahead of FULL", x.proxy(2, 0), STATE);
    d.due("FULL", x.proxy(1, 0), FULL);
    d.due("told(3)", x.told(3), 60);
  }

  private static void failedCallClearsTheResult() {
    ReflectModels x = new ReflectModels();
    int h = told(x, 0, 0, 0, 0, 0, INT, 0, 0, 9);
    x.make(0);
    gives("call", x, h, 0, 1, 9);
    x.call(5, 0);
    x.call(h, 7);
    d.result("refused call()", x, 1, 9);
    x.call(h, NONE);
    d.result("failed call()", x, 0, 0);
  }
}
