/**
 * The sentences under "Terms" that name a boundary case of BODIES, of what they give, or of
 * CAUSES: a test for each of them.
 */
public final class BodiesEdgesTest {
  private static final int NONE = Told.NONE, UNKNOWN = Told.UNKNOWN, OUTSIDE = Told.OUTSIDE, STATE = Told.STATE;
  private static final int INT = Told.INT, LONG = Told.LONG, VOID = Told.VOID;
  private static final int OPEN = Told.OPEN, STATIC = Told.STATIC, ABSTRACT_MARK = Told.ABSTRACT_MARK;
  private static final Due d = new Due();

  public static void main(String[] args) {
    bodiesThereAre();
    givesItsNumber();
    byTheSecond();
    byTheSecondAsTold();
    casts();
    castsAsTold();
    fieldOfTheFirst();
    fieldOfNothing();
    fieldOfAnother();
    fieldAsTold();
    itemOfARow();
    itemComesRound();
    itemAsTold();
    itsOwnNumber();
    theReceiver();
    theReceiverAsTold();
    puts();
    putsAsTold();
    givesNothingOrZero();
    asItIsTold();
    fitsItsMethod();
    nothingForANumber();
    fitsTheHandlesMethod();
    fitsItsOwnMethodFirst();
    proxyFitsTheHandlesAlone();
    widenedForItsType();
    voidGivesNothing();
    causes();
    d.end();
  }

  /** A STATIC METHOD of the ROOT. */
  private static int rootStatic(ReflectModels x, int name, int gives, int body, int b, int... types) {
    return Told.handle(x, 0, name, gives, STATIC, body, b, types);
  }

  private static void bodiesThereAre() {
    d.sentence("BODIES: 0 .. 7");
    ReflectModels x = new ReflectModels();
    Told.type(x, 0, 0);
    Told.field(x, 1, 0, INT);
    int[][] types = {{}, {INT, INT}, {0}, {0}, {INT}, {}, {}, {0}};
    d.due("BODY -1", Told.method(x, 1, 19, INT, OPEN, -1, 0), OUTSIDE);
    for (int body = 0; body <= 7; body++) {
      d.due("BODY " + body, Told.method(x, 1, body, INT, OPEN, body, 0, types[body]), body + 1);
    }
    d.due("BODY 8", Told.method(x, 1, 19, INT, OPEN, 8, 0), OUTSIDE);
    d.due("the least BODY", Told.method(x, 1, 19, INT, OPEN, Integer.MIN_VALUE, 0), OUTSIDE);
    d.due("the greatest BODY", Told.method(x, 1, 19, INT, OPEN, Integer.MAX_VALUE, 0), OUTSIDE);
  }

  private static void givesItsNumber() {
    d.sentence("0 gives b (of what is given: an INT, or a LONG; a class: NOTHING)");
    int[] given = {INT, LONG, 0, VOID};
    int[] kinds = {1, 2, 0, 0};
    for (int b : new int[] {Integer.MIN_VALUE, -1, 0, 1, 100, Integer.MAX_VALUE}) {
      ReflectModels x = new ReflectModels();
      for (int i = 0; i < 4; i++) {
        int h = rootStatic(x, i, given[i], 0, b);
        d.gives("b " + b + ", given " + given[i], x, x.call(h, NONE), kinds[i], kinds[i] == 0 ? 0 : b);
      }
    }
  }

  private static void byTheSecond() {
    d.sentence("1 the first VALUE by the second (both INT); ARITHMETIC (by 0)");
    ReflectModels x = new ReflectModels();
    int h = rootStatic(x, 0, INT, 1, 0, INT, INT);
    int asLong = rootStatic(x, 1, LONG, 1, 0, INT, INT);
    long[][] rows = {
      {7, 2, 3}, {-7, 2, -3}, {7, -2, -3}, {-7, -2, 3}, {0, 5, 0}, {1, 2, 0}, {-1, 2, 0},
      {Integer.MIN_VALUE, -1, Integer.MIN_VALUE}, {Integer.MIN_VALUE, 1, Integer.MIN_VALUE},
      {Integer.MAX_VALUE, -1, -Integer.MAX_VALUE}, {Integer.MAX_VALUE, Integer.MIN_VALUE, 0},
      {Integer.MIN_VALUE, Integer.MIN_VALUE, 1}};
    for (long[] row : rows) {
      x.value(0, 1, row[0]);
      x.value(1, 1, row[1]);
      d.gives(row[0] + " by " + row[1], x, x.call(h, NONE), 1, row[2]);
      d.gives(row[0] + " by " + row[1] + ", as a LONG", x, x.call(asLong, NONE), 2, row[2]);
    }
    for (long first : new long[] {0, 1, Integer.MIN_VALUE}) {
      x.value(0, 1, first);
      x.value(1, 1, 0);
      d.wrapped(first + " by 0", x, x.call(h, NONE), 1);
    }
  }

  private static void byTheSecondAsTold() {
    d.sentence("1 .. (both INT); where the TYPES are not as told: STATE");
    ReflectModels x = new ReflectModels();
    int[][] wrong = {{}, {INT}, {LONG, INT}, {INT, LONG}, {LONG, LONG}, {0, INT}, {INT, 0}};
    for (int i = 0; i < wrong.length; i++) {
      d.due("TYPES " + i, Told.method(x, 0, 0, INT, STATIC, 1, 0, wrong[i]), STATE);
    }
    d.due("as told", Told.method(x, 0, 0, INT, STATIC, 1, 0, INT, INT), 0);
  }

  private static void casts() {
    d.sentence("2 the first VALUE (of a class), CAST to class b");
    ReflectModels x = new ReflectModels();
    Told.type(x, 0, 2); // 1 FACE
    Told.type(x, 1, 2); // 2 FACE below 1
    Told.acting(x, 0, 0, 2); // 3 acts as 2
    Told.type(x, 3, 0); // 4 below 3
    int[] h = new int[5];
    for (int c = 0; c <= 4; c++) {
      h[c] = rootStatic(x, c, 0, 2, c, 0);
    }
    x.make(0); // 0
    x.make(3); // 1
    x.make(4); // 2
    x.proxy(1, 2); // 3
    int[][] of = {{1, 0, 0, 0, 0}, {1, 1, 1, 1, 0}, {1, 1, 1, 1, 1}, {1, 1, 0, 0, 0}};
    for (int o = 0; o < 4; o++) {
      x.value(0, 3, o);
      for (int c = 0; c <= 4; c++) {
        if (of[o][c] == 1) {
          d.gives("OBJECT " + o + " to " + c, x, x.call(h[c], NONE), 3, o);
        } else {
          d.wrapped("OBJECT " + o + " to " + c, x, x.call(h[c], NONE), 2);
        }
      }
    }
    x.value(0, 0, 0);
    for (int c = 0; c <= 4; c++) {
      d.gives("NOTHING to " + c, x, x.call(h[c], NONE), 0, 0);
    }
  }

  /** BODIES 2 and 7 ask for a first VALUE of a class, and a class b. */
  private static void ofAClassToAClass(int body) {
    ReflectModels x = Told.sorts();
    int[][] wrong = {{}, {INT}, {LONG}, {INT, 0}, {LONG, 4}};
    for (int i = 0; i < wrong.length; i++) {
      d.due("TYPES " + i, Told.method(x, 4, 0, 0, OPEN, body, 0, wrong[i]), STATE);
    }
    for (int b : new int[] {6, 16, -1, -3, Integer.MIN_VALUE, Integer.MAX_VALUE}) {
      d.due("class " + b, Told.method(x, 4, 0, 0, OPEN, body, b, 0), STATE);
    }
    for (int b = 0; b <= 5; b++) {
      d.due("class " + b + " as told", Told.method(x, 4, b, 0, OPEN, body, b, 5 - b), b);
    }
    d.due("with a second VALUE", Told.method(x, 4, 6, 0, OPEN, body, 0, 0, LONG), 6);
  }

  private static void castsAsTold() {
    d.sentence("2 .. (of a class) .. class b is none: STATE, as it is told");
    ofAClassToAClass(2);
  }

  private static void fieldOfTheFirst() {
    d.sentence("3 FIELD b (a MEMBER that is not STATIC) of the first VALUE (of a class)");
    ReflectModels x = new ReflectModels();
    Told.type(x, 0, 0); // 1
    Told.type(x, 1, 0); // 2
    Told.method(x, 1, 0, INT, OPEN, 0, 0); // MEMBER 0
    x.field(1, 5, LONG, false, true, true); // 1: FINAL, HIDDEN
    Told.field(x, 1, 6, 1); // 2
    int readsLong = rootStatic(x, 0, LONG, 3, 1, 0);
    int readsClass = rootStatic(x, 1, 1, 3, 2, 2);
    x.make(1); // 0
    x.make(2); // 1
    int f = x.findField(1, 5, false);
    int g = x.findField(1, 6, false);
    x.leave(f);
    x.value(0, 2, Long.MIN_VALUE);
    x.set(f, 1);
    x.value(0, 3, 1);
    d.gives("a HIDDEN one", x, x.call(readsLong, NONE), 2, Long.MIN_VALUE);
    d.gives("FIRST of a class", x, x.call(readsClass, NONE), 0, 0);
    x.set(g, 1);
    d.gives("an OBJECT", x, x.call(readsClass, NONE), 3, 1);
    x.value(0, 3, 0);
    d.gives("of the other OBJECT", x, x.call(readsLong, NONE), 2, 0);
  }

  private static void fieldOfNothing() {
    d.sentence("CAUSE 3, if that is NOTHING");
    ReflectModels x = new ReflectModels();
    Told.type(x, 0, 0);
    Told.field(x, 1, 0, 1);
    int h = rootStatic(x, 0, 1, 3, 0, 1);
    int asVoid = rootStatic(x, 1, VOID, 3, 0, 1);
    x.value(0, 0, 9);
    d.wrapped("NOTHING", x, x.call(h, NONE), 3);
    d.wrapped("NOTHING, VOID", x, x.call(asVoid, NONE), 3);
  }

  private static void fieldOfAnother() {
    d.sentence("2, if it is not OF the FIELD's class");
    ReflectModels x = new ReflectModels();
    Told.type(x, 0, 0); // 1
    Told.type(x, 1, 0); // 2
    Told.type(x, 1, 0); // 3
    Told.field(x, 2, 0, INT);
    int h = rootStatic(x, 0, INT, 3, 0, 0);
    x.make(0);
    x.make(1);
    x.make(2);
    x.make(3);
    for (int o = 0; o < 4; o++) {
      x.value(0, 3, o);
      if (o == 2) {
        d.gives("OF it", x, x.call(h, NONE), 1, 0);
      } else {
        d.wrapped("OBJECT " + o, x, x.call(h, NONE), 2);
      }
    }
  }

  private static void fieldAsTold() {
    d.sentence("3 .. or the MEMBER b is none: STATE, as it is told");
    ReflectModels x = Told.sorts();
    d.due("where there is no MEMBER", Told.method(x, 4, 0, INT, OPEN, 3, 0, 4), STATE);
    Told.staticField(x, 4, 0, INT); // 0
    Told.method(x, 4, 19, INT, OPEN, 0, 0); // 1
    Told.field(x, 4, 1, INT); // 2
    for (int b : new int[] {0, 1, 3, 39, 40, -1, Integer.MIN_VALUE, Integer.MAX_VALUE}) {
      d.due("MEMBER " + b, Told.method(x, 4, 0, INT, OPEN, 3, b, 4), STATE);
    }
    int[][] wrong = {{}, {INT}, {LONG}, {INT, 4}};
    for (int i = 0; i < wrong.length; i++) {
      d.due("TYPES " + i, Told.method(x, 4, 0, INT, OPEN, 3, 2, wrong[i]), STATE);
    }
    d.due("as told", Told.method(x, 4, 0, INT, OPEN, 3, 2, 4), 3);
    d.due("of another class", Told.method(x, 5, 0, INT, OPEN, 3, 2, 1, LONG), 4);
  }

  private static void itemOfARow() {
    d.sentence("4 item (the first VALUE, an INT) of a row of 3 INTS b, b + 1, b + 2");
    ReflectModels x = new ReflectModels();
    int h = rootStatic(x, 0, INT, 4, -1, INT);
    for (int i = 0; i <= 2; i++) {
      x.value(0, 1, i);
      d.gives("item " + i, x, x.call(h, NONE), 1, i - 1);
    }
    for (long i : new long[] {-1, 3, Integer.MIN_VALUE, Integer.MAX_VALUE}) {
      x.value(0, 1, i);
      d.wrapped("item " + i, x, x.call(h, NONE), 4);
    }
  }

  private static void itemComesRound() {
    d.sentence("4 .. 3 INTS b, b + 1, b + 2 (beyond the bounds of an INT)");
    ReflectModels x = new ReflectModels();
    int max = Integer.MAX_VALUE;
    int[] h = {rootStatic(x, 0, INT, 4, max, INT), rootStatic(x, 1, LONG, 4, max - 1, INT)};
    long[][] due = {{max, Integer.MIN_VALUE, Integer.MIN_VALUE + 1}, {max - 1, max, Integer.MIN_VALUE}};
    for (int i = 0; i <= 2; i++) {
      x.value(0, 1, i);
      d.gives("an INT, item " + i, x, x.call(h[0], NONE), 1, due[0][i]);
      d.gives("a LONG, item " + i, x, x.call(h[1], NONE), 2, due[1][i]);
    }
  }

  private static void itemAsTold() {
    d.sentence("4 .. (the first VALUE, an INT); where the TYPES are not as told: STATE");
    ReflectModels x = new ReflectModels();
    int[][] wrong = {{}, {LONG}, {0}, {LONG, INT}, {0, INT}};
    for (int i = 0; i < wrong.length; i++) {
      d.due("TYPES " + i, Told.method(x, 0, 0, INT, STATIC, 4, 0, wrong[i]), STATE);
    }
    d.due("one INT", Told.method(x, 0, 0, INT, STATIC, 4, 0, INT), 0);
    d.due("an INT and another", Told.method(x, 0, 0, INT, STATIC, 4, 0, INT, 0), 1);
  }

  private static void itsOwnNumber() {
    d.sentence("5 fails by its own number b (0 to 99)");
    ReflectModels x = new ReflectModels();
    for (int b : new int[] {-1, 100, Integer.MIN_VALUE, Integer.MAX_VALUE}) {
      d.due("b " + b, Told.method(x, 0, 0, INT, STATIC, 5, b), OUTSIDE);
      d.due("b " + b + " of another BODY", Told.method(x, 0, 0, INT, STATIC, 1, b, INT), STATE);
    }
    int none = rootStatic(x, 0, INT, 5, 0);
    int last = rootStatic(x, 1, VOID, 5, 99);
    d.wrapped("b 0", x, x.call(none, NONE), 100);
    d.wrapped("b 99", x, x.call(last, NONE), 199);
  }

  private static void theReceiver() {
    d.sentence("6 the receiver");
    ReflectModels x = new ReflectModels();
    Told.type(x, 0, 2);
    int open = Told.handle(x, 0, 0, 0, OPEN, 6, 0);
    int hidden = Told.handle(x, 0, 1, 0, Told.HIDDEN, 6, 0);
    int asInt = Told.handle(x, 0, 2, INT, OPEN, 6, 0);
    int asFace = Told.handle(x, 0, 3, 1, OPEN, 6, 0);
    x.make(0);
    x.proxy(1, 2);
    for (int o = 0; o <= 1; o++) {
      d.gives("OBJECT " + o, x, x.call(open, o), 3, o);
      d.gives("OBJECT " + o + ", HIDDEN", x, x.call(hidden, o), 3, o);
      d.wrapped("OBJECT " + o + " as an INT", x, x.call(asInt, o), 2);
    }
    d.wrapped("what is not OF the FACE, as it", x, x.call(asFace, 0), 2);
    d.gives("a PROXY as its FACE", x, x.call(asFace, 1), 3, 1);
  }

  private static void theReceiverAsTold() {
    d.sentence("6 .. (not STATIC)");
    ReflectModels x = Told.sorts();
    d.due("STATIC", Told.method(x, 4, 0, 4, STATIC, 6, 0), STATE);
    d.due("STATIC, HIDDEN", Told.method(x, 4, 0, 4, STATIC | Told.HIDDEN, 6, 0), STATE);
    d.due("a FACE's STATIC", Told.method(x, 1, 0, 1, STATIC, 6, 0), STATE);
    d.due("as told", Told.method(x, 4, 0, 4, OPEN, 6, 0), 0);
    d.due("HIDDEN", Told.method(x, 4, 1, 4, Told.HIDDEN, 6, 0), 1);
    d.due("ABSTRACT", Told.method(x, 1, 0, 1, ABSTRACT_MARK, 6, 0), 2);
  }

  private static void puts() {
    d.sentence("7 puts the first VALUE (of a class) into a row of class b; STORE");
    ReflectModels x = new ReflectModels();
    Told.type(x, 0, 2); // 1 FACE
    Told.acting(x, 0, 0, 1); // 2 acts as 1
    Told.type(x, 2, 0); // 3 below 2
    int[] h = new int[4];
    for (int c = 0; c <= 3; c++) {
      h[c] = rootStatic(x, c, 0, 7, c, 0);
    }
    x.make(0); // 0
    x.make(2); // 1
    x.make(3); // 2
    x.proxy(1, 0); // 3
    int[][] of = {{1, 0, 0, 0}, {1, 1, 1, 0}, {1, 1, 1, 1}, {1, 1, 0, 0}};
    for (int o = 0; o < 4; o++) {
      x.value(0, 3, o);
      for (int c = 0; c <= 3; c++) {
        if (of[o][c] == 1) {
          d.gives("OBJECT " + o + " into " + c, x, x.call(h[c], NONE), 0, 0);
        } else {
          d.wrapped("OBJECT " + o + " into " + c, x, x.call(h[c], NONE), 5);
        }
      }
    }
    x.value(0, 0, 0);
    d.gives("NOTHING", x, x.call(h[3], NONE), 0, 0);
  }

  private static void putsAsTold() {
    d.sentence("7 .. (of a class) .. class b is none: STATE, as it is told");
    ofAClassToAClass(7);
  }

  private static void givesNothingOrZero() {
    d.sentence("7 .. and gives NOTHING, or 0");
    ReflectModels x = new ReflectModels();
    Told.type(x, 0, 0);
    int[] given = {INT, LONG, VOID, 0, 1};
    int[] kinds = {1, 2, 0, 0, 0};
    int[] h = new int[5];
    for (int i = 0; i < 5; i++) {
      h[i] = rootStatic(x, i, given[i], 7, 0, 0);
    }
    x.make(0);
    for (int kind : new int[] {0, 3}) {
      x.value(0, kind, 0);
      for (int i = 0; i < 5; i++) {
        d.gives("kind " + kind + ", given " + given[i], x, x.call(h[i], NONE), kinds[i], 0);
      }
    }
  }

  private static void asItIsTold() {
    d.sentence("Where the TYPES are not as told, or the MEMBER, class b is none: STATE, as it is told");
    ReflectModels x = new ReflectModels();
    Told.type(x, 0, 0);
    d.due("a class that is told later", Told.method(x, 1, 0, 0, OPEN, 2, 2, 0), STATE);
    d.due("a FIELD that is told later", Told.method(x, 1, 0, INT, OPEN, 3, 0, 0), STATE);
    d.due("told(1)", x.told(1), 0);
    Told.type(x, 0, 0);
    Told.field(x, 1, 0, INT);
    d.due("the class", Told.method(x, 1, 0, 0, OPEN, 2, 2, 0), 1);
    d.due("the FIELD", Told.method(x, 1, 1, INT, OPEN, 3, 0, 0), 2);
    d.due("UNKNOWN ahead of it", Told.method(x, 1, 2, 3, OPEN, 2, 9, 0), UNKNOWN);
    d.due("OUTSIDE ahead of it", Told.method(x, 1, 20, 0, OPEN, 2, 9, 0), OUTSIDE);
  }

  private static void fitsItsMethod() {
    d.sentence("What a BODY gives FITS what its METHOD gives .. else CAUSE 2");
    ReflectModels x = new ReflectModels();
    Told.type(x, 0, 0); // 1
    Told.field(x, 1, 0, LONG); // MEMBER 0
    int intAsLong = rootStatic(x, 0, LONG, 4, 5, INT);
    int intAsClass = rootStatic(x, 1, 0, 4, 5, INT);
    int quotientAsClass = rootStatic(x, 2, 0, 1, 0, INT, INT);
    int longAsInt = rootStatic(x, 3, INT, 3, 0, 0);
    int longAsClass = rootStatic(x, 4, 0, 3, 0, 0);
    int objectAsInt = rootStatic(x, 5, INT, 2, 0, 0);
    int objectAsLong = rootStatic(x, 6, LONG, 2, 0, 0);
    int objectAsOne = rootStatic(x, 7, 1, 2, 0, 0);
    x.make(0);
    x.make(1);
    x.value(0, 1, 2);
    d.gives("an INT for a LONG", x, x.call(intAsLong, NONE), 2, 7);
    d.wrapped("an INT for a class", x, x.call(intAsClass, NONE), 2);
    x.value(1, 1, 2);
    d.wrapped("a quotient for a class", x, x.call(quotientAsClass, NONE), 2);
    x.value(0, 3, 1);
    d.wrapped("a LONG for an INT", x, x.call(longAsInt, NONE), 2);
    d.wrapped("a LONG for a class", x, x.call(longAsClass, NONE), 2);
    d.wrapped("an OBJECT for an INT", x, x.call(objectAsInt, NONE), 2);
    d.wrapped("an OBJECT for a LONG", x, x.call(objectAsLong, NONE), 2);
    d.gives("an OBJECT OF the class", x, x.call(objectAsOne, NONE), 3, 1);
    x.value(0, 3, 0);
    d.wrapped("an OBJECT that is not", x, x.call(objectAsOne, NONE), 2);
  }

  private static void nothingForANumber() {
    d.sentence("(NOTHING for an INT, LONG: 3)");
    ReflectModels x = new ReflectModels();
    Told.type(x, 0, 0); // 1
    Told.field(x, 1, 0, 1); // MEMBER 0
    int[] given = {INT, LONG};
    int[] cast = {rootStatic(x, 0, INT, 2, 0, 0), rootStatic(x, 1, LONG, 2, 0, 0)};
    int[] read = {rootStatic(x, 2, INT, 3, 0, 0), rootStatic(x, 3, LONG, 3, 0, 0)};
    int asClass = rootStatic(x, 4, 1, 3, 0, 0);
    x.make(1);
    for (int i = 0; i < 2; i++) {
      x.value(0, 0, 0);
      d.wrapped("CAST, given " + given[i], x, x.call(cast[i], NONE), 3);
      x.value(0, 3, 0);
      d.wrapped("a FIELD's, given " + given[i], x, x.call(read[i], NONE), 3);
    }
    d.gives("for a class", x, x.call(asClass, NONE), 0, 0);
  }

  /** Calls by a HANDLE of class 1's METHOD, of an OBJECT of class 2 that has another one in its place. */
  private static void overridden(int above, int gives, int body, int cause, int kind, long number) {
    ReflectModels x = new ReflectModels();
    Told.type(x, 0, 0);
    Told.type(x, 1, 0);
    int h = Told.handle(x, 1, 0, above, OPEN, 0, 1);
    Told.method(x, 2, 0, gives, OPEN, body, 8);
    x.make(2);
    String call = "HANDLE's gives " + above + ", BODY " + body + " gives " + gives;
    if (cause == 0) {
      d.gives(call, x, x.call(h, 0), kind, number);
    } else {
      d.wrapped(call, x, x.call(h, 0), cause);
    }
  }

  private static void fitsTheHandlesMethod() {
    d.sentence("then what that of the HANDLE gives, if it is another one: else CAUSE 2 (NOTHING for an INT, LONG: 3)");
    overridden(INT, INT, 0, 0, 1, 8);
    overridden(LONG, INT, 0, 0, 2, 8);
    overridden(LONG, LONG, 0, 0, 2, 8);
    overridden(INT, LONG, 0, 2, 0, 0);
    overridden(1, INT, 0, 2, 0, 0);
    overridden(1, LONG, 0, 2, 0, 0);
    overridden(INT, 0, 0, 3, 0, 0);
    overridden(LONG, 0, 0, 3, 0, 0);
    overridden(1, 0, 0, 0, 0, 0);
    overridden(INT, VOID, 0, 3, 0, 0);
    overridden(LONG, VOID, 0, 3, 0, 0);
    overridden(1, VOID, 0, 0, 0, 0);
    overridden(INT, 0, 6, 2, 0, 0);
    overridden(1, 0, 6, 0, 3, 0);
    overridden(2, 0, 6, 0, 3, 0);
  }

  private static void fitsItsOwnMethodFirst() {
    d.sentence("What a BODY gives FITS what its METHOD gives, then what that of the HANDLE gives");
    overridden(VOID, INT, 6, 2, 0, 0);
    overridden(0, INT, 6, 2, 0, 0);
    overridden(VOID, INT, 5, 108, 0, 0);
    overridden(0, VOID, 6, 0, 0, 0);
  }

  private static void proxyFitsTheHandlesAlone() {
    d.sentence("(of a PROXY that alone)");
    ReflectModels x = new ReflectModels();
    Told.type(x, 0, 2); // 1 FACE
    Told.type(x, 1, 2); // 2 FACE below 1
    Told.method(x, 0, 0, INT, OPEN, 0, 5);
    int asLong = Told.handle(x, 1, 0, LONG, ABSTRACT_MARK, 0, 0);
    int asInt = Told.handle(x, 2, 0, INT, ABSTRACT_MARK, 0, 0);
    int asClass = Told.handle(x, 2, 1, 0, ABSTRACT_MARK, 0, 0);
    int asVoid = Told.handle(x, 1, 2, VOID, ABSTRACT_MARK, 0, 0);
    x.proxy(2, 0); // 0 counts
    x.proxy(2, 1); // 1 gives NOTHING
    d.gives("as a LONG, where one below gives an INT", x, x.call(asLong, 0), 2, 1);
    d.gives("as an INT, where one ABOVE gives a LONG", x, x.call(asInt, 0), 1, 2);
    d.wrapped("an INT as a class", x, x.call(asClass, 0), 2);
    d.gives("an INT as VOID", x, x.call(asVoid, 0), 0, 0);
    d.wrapped("NOTHING as a LONG", x, x.call(asLong, 1), 3);
    d.wrapped("NOTHING as an INT", x, x.call(asInt, 1), 3);
    d.gives("NOTHING as a class", x, x.call(asClass, 1), 0, 0);
    d.gives("NOTHING as VOID", x, x.call(asVoid, 1), 0, 0);
  }

  private static void widenedForItsType() {
    d.sentence("LONG, if it is an INT (it is WIDENED): what a HANDLER gives back is a LONG then");
    ReflectModels x = new ReflectModels();
    Told.type(x, 0, 2);
    int asInt = Told.handle(x, 1, 0, INT, ABSTRACT_MARK, 0, 0, LONG);
    int asLong = Told.handle(x, 1, 1, LONG, ABSTRACT_MARK, 0, 0, LONG);
    int intAsInt = Told.handle(x, 1, 2, INT, ABSTRACT_MARK, 0, 0, INT, LONG);
    x.proxy(1, 3);
    x.value(0, 1, 6);
    d.wrapped("an INT for a LONG, as an INT", x, x.call(asInt, 0), 2);
    d.gives("an INT for a LONG, as a LONG", x, x.call(asLong, 0), 2, 6);
    x.value(1, 1, 7);
    d.gives("an INT for an INT, as an INT", x, x.call(intAsInt, 0), 1, 6);
  }

  private static void voidGivesNothing() {
    d.sentence("VOID: NOTHING");
    ReflectModels x = new ReflectModels();
    int quotient = rootStatic(x, 0, VOID, 1, 0, INT, INT);
    int item = rootStatic(x, 1, VOID, 4, 5, INT);
    int cast = rootStatic(x, 2, VOID, 2, 0, 0);
    int receiver = Told.handle(x, 0, 3, VOID, OPEN, 6, 0);
    int put = rootStatic(x, 4, VOID, 7, 0, 0);
    x.make(0);
    d.gives("the receiver", x, x.call(receiver, 0), 0, 0);
    x.value(0, 1, 1);
    d.gives("an item", x, x.call(item, NONE), 0, 0);
    x.value(1, 1, 1);
    d.gives("a quotient", x, x.call(quotient, NONE), 0, 0);
    x.value(0, 3, 0);
    d.gives("a CAST OBJECT", x, x.call(cast, NONE), 0, 0);
    d.gives("what is put", x, x.call(put, NONE), 0, 0);
    overridden(VOID, INT, 0, 0, 0, 0);
    overridden(VOID, VOID, 0, 0, 0, 0);
  }

  private static void causes() {
    d.sentence("CAUSES: 1 ARITHMETIC (by 0), 2 CAST, 3 NULL, 4 INDEX, 5 STORE, 6 ABSTRACT, 100 and b its own");
    ReflectModels x = new ReflectModels();
    Told.type(x, 0, 1); // 1 ABSTRACT
    Told.type(x, 1, 0); // 2 below it
    Told.field(x, 2, 0, INT); // MEMBER 0
    int none = Told.handle(x, 1, 0, INT, ABSTRACT_MARK, 0, 0);
    int own = rootStatic(x, 0, INT, 5, 42);
    int by = rootStatic(x, 1, INT, 1, 0, INT, INT);
    int cast = rootStatic(x, 2, 0, 2, 1, 0);
    int read = rootStatic(x, 3, INT, 3, 0, 0);
    int item = rootStatic(x, 4, INT, 4, 0, INT);
    int put = rootStatic(x, 5, INT, 7, 1, 0);
    x.make(2); // 0
    x.make(0); // 1
    d.due("cause() at first", x.cause(), 0);
    d.wrapped("ABSTRACT", x, x.call(none, 0), 6);
    d.wrapped("its own", x, x.call(own, NONE), 142);
    x.value(0, 1, 3);
    d.wrapped("INDEX", x, x.call(item, NONE), 4);
    x.value(1, 1, 0);
    d.wrapped("ARITHMETIC", x, x.call(by, NONE), 1);
    x.value(0, 0, 0);
    d.wrapped("NULL", x, x.call(read, NONE), 3);
    x.value(0, 3, 1);
    d.wrapped("CAST", x, x.call(cast, NONE), 2);
    d.wrapped("STORE", x, x.call(put, NONE), 5);
  }
}
