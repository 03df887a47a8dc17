import java.util.ArrayList;
import java.util.List;
import java.util.function.ToIntFunction;

/**
 * "Of several refusals the first one here, then FAILURES: UNKNOWN .., OUTSIDE .., STATE .., FULL.
 * Refusals change nothing.": a test of either sentence for each call that can be refused.
 */
public final class RefusalsTest {
  private static final int NONE = Told.NONE, UNKNOWN = Told.UNKNOWN, OUTSIDE = Told.OUTSIDE, STATE = Told.STATE;
  private static final int FULL = Told.FULL, NO_MEMBER = Told.NO_MEMBER;
  private static final int INT = Told.INT, LONG = Told.LONG, VOID = Told.VOID;
  private static final int OPEN = Told.OPEN, STATIC = Told.STATIC, ABSTRACT_MARK = Told.ABSTRACT_MARK, HIDDEN = Told.HIDDEN;
  private static final Due d = new Due();

  public static void main(String[] args) {
    orderOfType();
    orderOfConstants();
    orderOfField();
    orderOfMethod();
    orderOfFinding();
    orderOfValue();
    orderOfGet();
    orderOfSet();
    orderOfCall();
    orderOfMake();
    orderOfProxy();
    orderOfConstant();
    orderOfAsking();
    tellingChangesNothing();
    lookingChangesNothing();
    actsChangeNothing();
    askingChangesNothing();
    fullChangesNothing();
    d.end();
  }

  // ---- the order

  private static void order(String call) {
    d.sentence("Of several refusals the first one here, then FAILURES (" + call + ")");
  }

  private static void orderOfType() {
    order("type");
    ReflectModels x = new ReflectModels();
    for (int c = 1; c <= 15; c++) {
      Told.type(x, 0, c == 1 ? 3 : 0);
    }
    d.due("UNKNOWN, OUTSIDE, STATE, FULL", Told.acting(x, 1, 5, 16), UNKNOWN);
    d.due("UNKNOWN, OUTSIDE, FULL", Told.acting(x, 16, 5, NONE), UNKNOWN);
    d.due("UNKNOWN, STATE, FULL", Told.acting(x, 1, 0, 16), UNKNOWN);
    d.due("UNKNOWN, FULL", Told.acting(x, 0, 0, -2), UNKNOWN);
    d.due("OUTSIDE, STATE, FULL", Told.acting(x, 1, 5, 0), OUTSIDE);
    d.due("OUTSIDE, FULL", Told.acting(x, 0, -1, NONE), OUTSIDE);
    d.due("STATE (that ABOVE), FULL", Told.acting(x, 1, 0, NONE), STATE);
    d.due("STATE (the FACE), FULL", Told.acting(x, 0, 0, 2), STATE);
    d.due("FULL", Told.acting(x, 0, 0, NONE), FULL);
  }

  private static void orderOfConstants() {
    order("constants");
    ReflectModels x = Told.sorts();
    d.due("UNKNOWN, OUTSIDE", x.constants(6, 0), UNKNOWN);
    d.due("OUTSIDE, STATE", x.constants(4, 0), OUTSIDE);
    x.constants(3, 1);
    d.due("OUTSIDE, STATE (has them)", x.constants(3, 5), OUTSIDE);
    d.due("STATE", x.constants(3, 4), STATE);
  }

  /** 40 MEMBERS, and an OBJECT, if it is asked for. */
  private static ReflectModels fullOfMembers(boolean withObject) {
    ReflectModels x = Told.sorts();
    for (int name = 0; name < 20; name++) {
      Told.field(x, 4, name, INT);
      Told.method(x, 4, name, INT, OPEN, 0, 0);
    }
    if (withObject) {
      x.make(4);
    }
    return x;
  }

  private static void orderOfField() {
    order("field");
    for (boolean withObject : new boolean[] {false, true}) {
      ReflectModels x = fullOfMembers(withObject);
      d.due("UNKNOWN (c), OUTSIDE, FULL", Told.field(x, 6, 20, VOID), UNKNOWN);
      d.due("UNKNOWN (a TYPE), OUTSIDE, FULL", Told.field(x, 4, 20, 6), UNKNOWN);
      d.due("UNKNOWN, STATE, FULL", Told.field(x, 0, 0, 6), UNKNOWN);
      d.due("OUTSIDE (the name), STATE, FULL", Told.field(x, 0, 20, INT), OUTSIDE);
      d.due("OUTSIDE (a TYPE), STATE, FULL", Told.field(x, 4, 0, VOID), OUTSIDE);
      d.due("STATE (it is there), FULL", Told.field(x, 4, 0, INT), STATE);
      d.due("STATE (may not be so), FULL", Told.field(x, 0, 0, INT), STATE);
      d.due("FULL, or STATE (OBJECTS)", Told.field(x, 5, 0, INT), withObject ? STATE : FULL);
    }
  }

  private static void orderOfMethod() {
    order("method");
    for (boolean withObject : new boolean[] {false, true}) {
      ReflectModels x = fullOfMembers(withObject);
      d.due("UNKNOWN (c), OUTSIDE, FULL", x.method(6, 20, 3, VOID, VOID, -4, 9, 9, 9), UNKNOWN);
      d.due("UNKNOWN (gives), OUTSIDE, FULL", x.method(4, 20, 3, VOID, VOID, 6, 9, 9, 9), UNKNOWN);
      d.due("UNKNOWN (first), OUTSIDE", x.method(4, 20, 1, 6, 0, -4, 9, 9, 9), UNKNOWN);
      d.due("UNKNOWN (second), OUTSIDE", x.method(4, 20, 2, VOID, 6, -4, 9, 9, 9), UNKNOWN);
      d.due("UNKNOWN, STATE, FULL", Told.method(x, 1, 0, 6, OPEN, 1, 0), UNKNOWN);
      d.due("OUTSIDE (the name), STATE", Told.method(x, 1, 20, INT, OPEN, 1, 0), OUTSIDE);
      d.due("OUTSIDE (n), STATE", x.method(4, 0, 3, INT, INT, INT, ABSTRACT_MARK, 6, 0), OUTSIDE);
      d.due("OUTSIDE (a TYPE), STATE", Told.method(x, 4, 0, INT, ABSTRACT_MARK, 1, 0, VOID), OUTSIDE);
      d.due("OUTSIDE (gives), STATE", Told.method(x, 4, 0, -4, ABSTRACT_MARK, 1, 0), OUTSIDE);
      d.due("OUTSIDE (marks), STATE", Told.method(x, 4, 0, INT, 3, 1, 0), OUTSIDE);
      d.due("OUTSIDE (the BODY), STATE", Told.method(x, 4, 0, INT, ABSTRACT_MARK, 8, 0), OUTSIDE);
      d.due("OUTSIDE (b of 5), STATE", Told.method(x, 4, 0, INT, ABSTRACT_MARK, 5, 100), OUTSIDE);
      d.due("STATE (it is there), FULL", Told.method(x, 4, 0, INT, OPEN, 0, 0), STATE);
      d.due("STATE (as told: ABSTRACT), FULL", Told.method(x, 4, 0, INT, ABSTRACT_MARK, 0, 0, INT), STATE);
      d.due("STATE (as told: TYPES), FULL", Told.method(x, 4, 0, INT, OPEN, 1, 0, INT), STATE);
      d.due("STATE (as told: class b), FULL", Told.method(x, 4, 0, INT, OPEN, 2, 6, 0), STATE);
      d.due("STATE (as told: MEMBER b), FULL", Told.method(x, 4, 0, INT, OPEN, 3, 40, 0), STATE);
      d.due("FULL, or STATE (OBJECTS)", Told.method(x, 5, 0, INT, OPEN, 0, 0), withObject ? STATE : FULL);
    }
  }

  private static void orderOfFinding() {
    order("findField, findMethod");
    ReflectModels x = new ReflectModels();
    Told.staticField(x, 0, 0, INT);
    Told.method(x, 0, 0, INT, STATIC, 0, 0);
    for (int h = 0; h <= 60; h++) {
      d.due("UNKNOWN, OUTSIDE", x.findField(1, 20, true), UNKNOWN);
      d.due("UNKNOWN, OUTSIDE", x.findMethod(1, 20, 3, VOID, VOID, true), UNKNOWN);
      d.due("UNKNOWN (a TYPE), OUTSIDE", x.findMethod(0, 20, 1, 1, 0, true), UNKNOWN);
      d.due("OUTSIDE ahead of FAILURE 1", x.findField(0, 20, true), OUTSIDE);
      d.due("OUTSIDE ahead of FAILURE 1", x.findMethod(0, 20, 0, 0, 0, true), OUTSIDE);
      d.due("FAILURE 1", x.findField(0, 1, false), NO_MEMBER);
      d.due("HANDLE " + h, x.findField(0, 0, false), h < 60 ? h : FULL);
    }
  }

  private static void orderOfValue() {
    order("value");
    ReflectModels x = new ReflectModels();
    d.due("UNKNOWN, OUTSIDE (k)", x.value(1, 3, 0), UNKNOWN);
    d.due("OUTSIDE (k, kind, number)", x.value(1, 4, Long.MAX_VALUE), OUTSIDE);
    x.make(0);
    d.due("OUTSIDE (k) of an OBJECT", x.value(1, 3, 0), OUTSIDE);
  }

  private static void orderOfGet() {
    order("get");
    ReflectModels x = new ReflectModels();
    Told.failing(x, 0, 0);
    x.field(1, 0, LONG, true, false, true);
    int m = Told.handle(x, 1, 0, INT, HIDDEN, 0, 0);
    int f = x.findField(1, 0, false);
    d.due("UNKNOWN (h), OUTSIDE", x.get(9, NONE, 1), UNKNOWN);
    d.due("UNKNOWN (an OBJECT), OUTSIDE, STATE", x.get(m, 0, 1), UNKNOWN);
    d.due("UNKNOWN (an OBJECT), STATE", x.get(m, 0, 0), UNKNOWN);
    d.due("UNKNOWN (an OBJECT), FAILURES", x.get(f, 0, 0), UNKNOWN);
    d.due("OUTSIDE, STATE", x.get(m, NONE, 1), OUTSIDE);
    d.due("OUTSIDE, FAILURES", x.get(f, NONE, 1), OUTSIDE);
    d.due("STATE, FAILURES", x.get(m, NONE, -1), STATE);
    d.due("told(5)", x.told(5), 0);
    d.due("FAILURES", x.get(f, NONE, -1), Told.NO_LEAVE);
  }

  private static void orderOfSet() {
    order("set");
    ReflectModels x = new ReflectModels();
    Told.failing(x, 0, 0);
    x.field(1, 0, LONG, true, true, true);
    int m = Told.handle(x, 1, 0, INT, HIDDEN, 0, 0);
    int f = x.findField(1, 0, false);
    for (int have = 0; have <= 1; have++) {
      d.due("UNKNOWN (h)", x.set(9, NONE), UNKNOWN);
      d.due("UNKNOWN (an OBJECT), STATE", x.set(m, 0), UNKNOWN);
      d.due("UNKNOWN (an OBJECT), FAILURES", x.set(f, 0), UNKNOWN);
      d.due("STATE (no FIELD), FAILURES", x.set(m, NONE), STATE);
      d.due("told(5)", x.told(5), 0);
      d.due("STATE (no VALUES), FAILURES", x.set(f, NONE), have == 0 ? STATE : Told.NO_LEAVE);
      x.value(0, 0, 0);
    }
  }

  private static void orderOfCall() {
    order("call");
    ReflectModels x = new ReflectModels();
    Told.failing(x, 0, 0);
    x.field(1, 0, LONG, true, true, true);
    int m = Told.handle(x, 1, 0, INT, HIDDEN, 0, 0, INT);
    int f = x.findField(1, 0, false);
    d.due("UNKNOWN (h)", x.call(9, NONE), UNKNOWN);
    d.due("UNKNOWN (an OBJECT), STATE", x.call(f, 0), UNKNOWN);
    d.due("UNKNOWN (an OBJECT), FAILURES", x.call(m, 0), UNKNOWN);
    d.due("STATE, FAILURES", x.call(f, NONE), STATE);
    d.due("told(5)", x.told(5), 0);
    d.due("FAILURES", x.call(m, NONE), Told.NO_LEAVE);
  }

  private static void orderOfMake() {
    order("make");
    ReflectModels x = new ReflectModels();
    Told.type(x, 0, 1);
    for (int o = 0; o < 60; o++) {
      x.make(0);
    }
    d.due("UNKNOWN, FULL", x.make(2), UNKNOWN);
    d.due("FULL, FAILURES", x.make(1), FULL);
    x.value(0, 0, 0);
    d.due("FULL, UNLIKE", x.make(0), FULL);
    d.due("told(5)", x.told(5), 0);
  }

  private static void orderOfProxy() {
    order("proxy");
    ReflectModels x = new ReflectModels();
    Told.type(x, 0, 2);
    for (int o = 0; o <= 60; o++) {
      d.due("UNKNOWN, OUTSIDE", x.proxy(2, 4), UNKNOWN);
      d.due("OUTSIDE, STATE", x.proxy(0, 4), OUTSIDE);
      d.due("OUTSIDE", x.proxy(1, 4), OUTSIDE);
      d.due("STATE", x.proxy(0, 0), STATE);
      d.due("OBJECT " + o, x.proxy(1, 0), o < 60 ? o : FULL);
    }
  }

  private static void orderOfConstant() {
    order("constant");
    ReflectModels x = new ReflectModels();
    Told.failing(x, 0, 0);
    d.due("UNKNOWN", x.constant(2, -1), UNKNOWN);
    d.due("STATE, FAILURES", x.constant(1, 0), STATE);
    d.due("STATE, NONE", x.constant(1, -1), STATE);
    d.due("told(5)", x.told(5), 0);
  }

  private static void orderOfAsking() {
    order("about, handle");
    ReflectModels x = new ReflectModels();
    d.due("UNKNOWN, OUTSIDE", x.about(1, 5), UNKNOWN);
    d.due("UNKNOWN, OUTSIDE", x.handle(0, 3), UNKNOWN);
    d.due("OUTSIDE", x.about(0, 5), OUTSIDE);
  }

  // ---- refusals change nothing

  /**
   * 1 a FACE, 2 a RECORD, 3 an ENUMERATION with CONSTANTS, 4 PLAIN, 5 ABSTRACT, 6 one that FAILS, 7 SHUT;
   * HANDLES 0 to 8; OBJECTS 0 to 4; two VALUES; a RESULT, a CAUSE, a FAILURE; the CALLER is 4.
   */
  private static ReflectModels scene() {
    ReflectModels x = telling();
    x.make(4); // 0
    x.proxy(1, 0); // 1
    x.proxy(1, 3); // 2
    x.start(5);
    x.value(0, 1, 8);
    x.make(2); // 3
    x.set(0, 0);
    x.call(3, 1);
    x.call(4, 0); // CAUSE 1
    x.value(1, 1, 3);
    x.findField(4, 9, true); // FAILURE 1
    x.call(4, 0);
    x.caller(4);
    x.leave(1);
    return x;
  }

  /** The classes, MEMBERS and HANDLES of the scene, without OBJECTS. */
  private static ReflectModels telling() {
    ReflectModels x = Told.sorts();
    Told.failing(x, 0, 0); // 6
    Told.shut(x, 0, 0); // 7
    x.constants(3, 2);
    Told.field(x, 4, 0, INT); // 0
    x.field(4, 1, LONG, true, false, true); // 1
    Told.recordField(x, 2, 0, LONG); // 2
    Told.method(x, 1, 0, INT, ABSTRACT_MARK, 0, 0, INT); // 3
    Told.method(x, 4, 0, INT, OPEN, 1, 0, INT, INT); // 4
    Told.method(x, 4, 1, INT, OPEN, 5, 1, INT); // 5
    x.field(7, 0, INT, true, false, true); // 6
    Told.method(x, 1, 1, LONG, ABSTRACT_MARK, 0, 0, INT, INT); // 7
    x.field(6, 0, INT, true, false, false); // 8
    x.findField(4, 0, false); // HANDLE 0
    x.findField(4, 1, false); // 1
    x.findField(2, 0, false); // 2
    Told.found(x, 1, 0, INT); // 3
    Told.found(x, 4, 0, INT, INT); // 4
    Told.found(x, 4, 1, INT); // 5
    x.findField(7, 0, false); // 6
    Told.found(x, 1, 1, INT, INT); // 7
    x.findField(6, 0, false); // 8
    return x;
  }

  /** All that can be asked for, first without a change, then by acts. */
  private static List<Long> picture(ReflectModels x) {
    List<Long> seen = new ArrayList<>();
    for (int what = 0; what <= 5; what++) {
      seen.add((long) x.told(what));
    }
    seen.add((long) x.resultKind());
    seen.add(x.result());
    seen.add((long) x.cause());
    for (int c = 0; c < x.told(0); c++) {
      for (int what = 0; what <= 4; what++) {
        seen.add((long) x.about(c, what));
      }
    }
    for (int h = 0; h < x.told(2); h++) {
      for (int what = 0; what <= 2; what++) {
        seen.add((long) x.handle(h, what));
      }
    }
    for (int o = 0; o < x.told(3); o++) {
      seen.add((long) x.is(o, 1) + 2 * x.is(o, 4));
    }
    for (int o = NONE; o < x.told(3); o++) {
      for (int h = 0; h <= 2; h++) {
        seen.add((long) x.get(h, o, 0));
        seen.add(x.result());
      }
    }
    // VALUES are seen by a HANDLER that gives the first, by a quotient, and by how often one is asked.
    for (int h : new int[] {7, 4, 3}) {
      for (int o = 0; o < x.told(3); o++) {
        seen.add((long) x.call(h, o));
        seen.add(x.result());
        seen.add((long) x.cause());
      }
    }
    seen.add((long) x.caller(0));
    seen.add((long) x.constant(3, 1));
    seen.add((long) x.start(6));
    seen.add((long) x.told(3));
    return seen;
  }

  private static void unchanged(String call, int due, ToIntFunction<ReflectModels> refused) {
    d.sentence("Refusals change nothing (in the scene)");
    unchanged(call, due, refused, scene(), scene());
  }

  private static void unchanged(
      String call, int due, ToIntFunction<ReflectModels> refused, ReflectModels x, ReflectModels untouched) {
    d.due(call, refused.applyAsInt(x), due);
    d.holds("nothing is changed by " + call, picture(x).equals(picture(untouched)));
  }

  private static void tellingChangesNothing() {
    unchanged("type, above", UNKNOWN, x -> Told.type(x, 8, 0));
    unchanged("type, face", UNKNOWN, x -> Told.acting(x, 0, 0, 8));
    unchanged("type, SORT", OUTSIDE, x -> Told.type(x, 0, 5));
    unchanged("type, STATE", STATE, x -> Told.type(x, 2, 0));
    unchanged("constants, UNKNOWN", UNKNOWN, x -> x.constants(8, 1));
    unchanged("constants, OUTSIDE", OUTSIDE, x -> x.constants(3, 5));
    unchanged("constants, STATE", STATE, x -> x.constants(3, 4));
    unchanged("field, UNKNOWN", UNKNOWN, x -> Told.field(x, 8, 0, INT));
    unchanged("field, OUTSIDE", OUTSIDE, x -> Told.field(x, 4, 20, INT));
    unchanged("field, STATE", STATE, x -> Told.field(x, 4, 5, INT));
    unchanged("method, UNKNOWN", UNKNOWN, x -> Told.method(x, 8, 0, INT, OPEN, 0, 0));
    unchanged("method, OUTSIDE", OUTSIDE, x -> Told.method(x, 4, 20, INT, OPEN, 0, 0));
    unchanged("method, STATE", STATE, x -> Told.method(x, 4, 5, INT, OPEN, 0, 0));
    d.sentence("Refusals change nothing (where there are no OBJECTS)");
    unchanged("field, there", STATE, x -> Told.field(x, 4, 0, INT), telling(), telling());
    unchanged("field, may not be so", STATE, x -> Told.field(x, 1, 0, INT), telling(), telling());
    unchanged("method, there", STATE, x -> Told.method(x, 4, 1, INT, OPEN, 0, 0, INT), telling(), telling());
    unchanged("method, as told", STATE, x -> Told.method(x, 4, 7, INT, OPEN, 1, 0), telling(), telling());
    unchanged("constants, told", STATE, x -> x.constants(3, 1), telling(), telling());
    unchanged("set, no VALUES", STATE, x -> x.set(1, NONE), telling(), telling());
  }

  private static void lookingChangesNothing() {
    unchanged("caller", UNKNOWN, x -> x.caller(8));
    unchanged("findField, UNKNOWN", UNKNOWN, x -> x.findField(8, 0, true));
    unchanged("findField, OUTSIDE", OUTSIDE, x -> x.findField(4, 20, true));
    unchanged("findMethod, UNKNOWN", UNKNOWN, x -> Told.found(x, 8, 0));
    unchanged("findMethod, OUTSIDE", OUTSIDE, x -> Told.found(x, 4, 20));
    unchanged("leave", UNKNOWN, x -> x.leave(9));
  }

  private static void actsChangeNothing() {
    unchanged("value, UNKNOWN", UNKNOWN, x -> x.value(0, 3, 60));
    unchanged("value, k", OUTSIDE, x -> x.value(3, 1, 0));
    unchanged("value, kind", OUTSIDE, x -> x.value(0, 4, 0));
    unchanged("value, an INT beyond its bounds", OUTSIDE, x -> x.value(0, 1, 1L << 31));
    unchanged("get, UNKNOWN", UNKNOWN, x -> x.get(9, NONE, 0));
    unchanged("get, an OBJECT", UNKNOWN, x -> x.get(8, 60, 0));
    unchanged("get, OUTSIDE", OUTSIDE, x -> x.get(8, NONE, 1));
    unchanged("get, STATE", STATE, x -> x.get(4, NONE, 0));
    unchanged("set, UNKNOWN", UNKNOWN, x -> x.set(9, NONE));
    unchanged("set, an OBJECT", UNKNOWN, x -> x.set(8, 60));
    unchanged("set, STATE", STATE, x -> x.set(4, NONE));
    unchanged("call, UNKNOWN", UNKNOWN, x -> x.call(9, NONE));
    unchanged("call, an OBJECT", UNKNOWN, x -> x.call(3, 60));
    unchanged("call, STATE", STATE, x -> x.call(8, NONE));
    unchanged("make, UNKNOWN", UNKNOWN, x -> x.make(8));
    unchanged("proxy, UNKNOWN", UNKNOWN, x -> x.proxy(8, 0));
    unchanged("proxy, OUTSIDE", OUTSIDE, x -> x.proxy(1, 4));
    unchanged("proxy, STATE", STATE, x -> x.proxy(6, 0));
    unchanged("constant, UNKNOWN", UNKNOWN, x -> x.constant(8, 0));
    unchanged("constant, STATE", STATE, x -> x.constant(6, 0));
    unchanged("start, UNKNOWN", UNKNOWN, x -> x.start(8));
  }

  private static void askingChangesNothing() {
    unchanged("about, UNKNOWN", UNKNOWN, x -> x.about(8, 0));
    unchanged("about, OUTSIDE", OUTSIDE, x -> x.about(6, 5));
    unchanged("is, UNKNOWN", UNKNOWN, x -> x.is(60, 6));
    unchanged("handle, UNKNOWN", UNKNOWN, x -> x.handle(9, 0));
    unchanged("handle, OUTSIDE", OUTSIDE, x -> x.handle(8, 3));
    unchanged("told, OUTSIDE", OUTSIDE, x -> x.told(6));
  }

  private static ReflectModels fullOfClasses() {
    ReflectModels x = telling();
    for (int c = 8; c < 16; c++) {
      Told.type(x, 0, 0);
    }
    return x;
  }

  private static ReflectModels fullOfMembersToo() {
    ReflectModels x = telling();
    for (int name = 0; name < 20; name++) {
      Told.field(x, 5, name, INT);
      Told.method(x, 5, name, INT, OPEN, 0, 0);
    }
    return x;
  }

  private static ReflectModels fullOfHandles() {
    ReflectModels x = telling();
    for (int h = 9; h < 60; h++) {
      x.findField(4, 0, false);
    }
    return x;
  }

  private static ReflectModels fullOfObjects() {
    ReflectModels x = telling();
    for (int o = 0; o < 60; o++) {
      x.make(0);
    }
    return x;
  }

  private static void fullChangesNothing() {
    d.sentence("Refusals change nothing (where it is FULL)");
    unchanged("type", FULL, x -> Told.type(x, 0, 0), fullOfClasses(), fullOfClasses());
    unchanged("field", FULL, x -> Told.field(x, 4, 5, INT), fullOfMembersToo(), fullOfMembersToo());
    unchanged("method", FULL, x -> Told.method(x, 4, 5, INT, OPEN, 0, 0), fullOfMembersToo(), fullOfMembersToo());
    unchanged("findField", FULL, x -> x.findField(4, 0, false), fullOfHandles(), fullOfHandles());
    unchanged("findMethod", FULL, x -> Told.found(x, 4, 1, INT), fullOfHandles(), fullOfHandles());
    d.sentence("Refusals change nothing (FULL of OBJECTS)");
    for (int c : new int[] {0, 4, 5, 6}) {
      ReflectModels x = fullOfObjects();
      d.due("make(" + c + ")", x.make(c), FULL);
      d.due("proxy(1, 0)", x.proxy(1, 0), FULL);
      d.due("told(3)", x.told(3), 60);
      d.due("told(5)", x.told(5), 0);
      d.due("about(" + c + ", 3)", x.about(c, 3), c == 0 ? 1 : 0);
    }
  }
}
