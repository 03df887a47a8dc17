/** Promises 4 and 5: field, method. */
public final class MembersTest {
  private static final int NONE = -1, UNKNOWN = -2, OUTSIDE = -3, STATE = -4, FULL = -5;
  private static final int INT = -1, LONG = -2, VOID = -3;
  private static final Due d = new Due();

  public static void main(String[] args) {
    ordinaryFields();
    refusedFields();
    fieldsThatMayNotBe();
    ordinaryMethods();
    refusedMethods();
    abstractMethods();
    bodiesAsTold();
    methodsThatAreThere();
    fullOfMembers();
    membersBehindObjects();
    d.end();
  }

  /** 1 a FACE, 2 a RECORD, 3 an ENUMERATION, 4 PLAIN, 5 ABSTRACT. */
  private static ReflectModels sorts() {
    ReflectModels x = new ReflectModels();
    x.type(0, 2, NONE, false, false);
    x.type(0, 3, NONE, false, false);
    x.type(0, 4, NONE, false, false);
    x.type(0, 0, NONE, false, false);
    x.type(0, 1, NONE, false, false);
    return x;
  }

  private static void ordinaryFields() {
    ReflectModels x = sorts();
    d.due("INT", x.field(4, 0, INT, false, false, false), 0);
    d.due("LONG", x.field(4, 19, LONG, true, true, true), 1);
    d.due("a class", x.field(4, 1, 5, false, true, false), 2);
    d.due("its own class", x.field(4, 2, 4, false, false, true), 3);
    d.due("the same name in another class", x.field(5, 0, 0, false, false, false), 4);
    d.due("an ENUMERATION's", x.field(3, 0, INT, false, false, false), 5);
    d.due("an ENUMERATION's STATIC", x.field(3, 1, INT, true, false, false), 6);
    d.due("about(4, 4)", x.about(4, 4), 4);
    d.due("about(5, 4)", x.about(5, 4), 1);
    d.due("about(3, 4)", x.about(3, 4), 2);
    d.due("about(0, 4)", x.about(0, 4), 0);
    d.due("told(1)", x.told(1), 7);
  }

  private static void refusedFields() {
    ReflectModels x = sorts();
    d.due("class 6", x.field(6, 0, INT, false, false, false), UNKNOWN);
    d.due("class -1", x.field(-1, 0, INT, false, false, false), UNKNOWN);
    d.due("TYPE 6", x.field(4, 0, 6, false, false, false), UNKNOWN);
    d.due("TYPE 6, name outside", x.field(4, 20, 6, false, false, false), UNKNOWN);
    d.due("name -1", x.field(4, -1, INT, false, false, false), OUTSIDE);
    d.due("name 20", x.field(4, 20, INT, false, false, false), OUTSIDE);
    d.due("VOID", x.field(4, 0, VOID, false, false, false), OUTSIDE);
    d.due("TYPE -4", x.field(4, 0, -4, false, false, false), OUTSIDE);
    d.due("OUTSIDE ahead of STATE", x.field(0, 20, INT, false, false, false), OUTSIDE);
    x.field(4, 0, INT, false, false, false);
    d.due("there already", x.field(4, 0, LONG, true, true, true), STATE);
    d.due("a METHOD of the name", x.method(4, 1, 0, 0, 0, INT, 0, 0, 0), 1);
    d.due("a FIELD of a METHOD's name", x.field(4, 1, INT, false, false, false), 2);
    d.due("told(1)", x.told(1), 3);
    d.due("about(4, 4)", x.about(4, 4), 3);
  }

  private static void fieldsThatMayNotBe() {
    ReflectModels x = sorts();
    d.due("the ROOT's, not STATIC", x.field(0, 0, INT, false, false, false), STATE);
    d.due("the ROOT's, STATIC", x.field(0, 0, INT, true, false, false), 0);
    d.due("a FACE's, not STATIC", x.field(1, 0, INT, false, true, false), STATE);
    d.due("a FACE's, STATIC", x.field(1, 0, INT, true, false, true), 1);
    d.due("a RECORD's, STATIC", x.field(2, 0, INT, true, true, false), STATE);
    d.due("a RECORD's, not FINAL", x.field(2, 0, INT, false, false, false), STATE);
    d.due("a RECORD's, neither", x.field(2, 0, INT, true, false, false), STATE);
    d.due("a RECORD's", x.field(2, 0, INT, false, true, true), 2);
  }

  private static void ordinaryMethods() {
    ReflectModels x = sorts();
    d.due("of none", x.method(4, 0, 0, 99, 99, VOID, 0, 0, 0), 0);
    d.due("of one", x.method(4, 0, 1, INT, 99, INT, 0, 0, 0), 1);
    d.due("of two", x.method(4, 0, 2, INT, LONG, LONG, 0, 0, 0), 2);
    d.due("of two classes", x.method(4, 0, 2, 4, 5, 0, 0, 0, 0), 3);
    d.due("STATIC", x.method(4, 1, 0, 0, 0, INT, 1, 0, 0), 4);
    d.due("HIDDEN", x.method(4, 2, 0, 0, 0, INT, 4, 0, 0), 5);
    d.due("STATIC, HIDDEN", x.method(4, 3, 0, 0, 0, INT, 5, 0, 0), 6);
    d.due("the ROOT's", x.method(0, 19, 0, 0, 0, INT, 0, 0, 0), 7);
    d.due("a RECORD's", x.method(2, 0, 0, 0, 0, INT, 0, 0, 0), 8);
    d.due("an ENUMERATION's", x.method(3, 0, 0, 0, 0, INT, 0, 0, 0), 9);
    d.due("an ABSTRACT one's that is none", x.method(5, 0, 0, 0, 0, INT, 0, 0, 0), 10);
    d.due("b of another BODY", x.method(4, 4, 0, 0, 0, INT, 0, 0, Integer.MIN_VALUE), 11);
    d.due("about(4, 4)", x.about(4, 4), 8);
    d.due("told(1)", x.told(1), 12);
  }

  private static void refusedMethods() {
    ReflectModels x = sorts();
    d.due("class 6", x.method(6, 0, 0, 0, 0, INT, 0, 0, 0), UNKNOWN);
    d.due("class -1", x.method(-1, 0, 0, 0, 0, INT, 0, 0, 0), UNKNOWN);
    d.due("first 6", x.method(4, 0, 1, 6, 0, INT, 0, 0, 0), UNKNOWN);
    d.due("second 6", x.method(4, 0, 2, INT, 6, INT, 0, 0, 0), UNKNOWN);
    d.due("gives 6", x.method(4, 0, 0, 0, 0, 6, 0, 0, 0), UNKNOWN);
    d.due("UNKNOWN ahead of OUTSIDE", x.method(4, 20, 0, 0, 0, 6, 9, 9, 0), UNKNOWN);
    d.due("name -1", x.method(4, -1, 0, 0, 0, INT, 0, 0, 0), OUTSIDE);
    d.due("name 20", x.method(4, 20, 0, 0, 0, INT, 0, 0, 0), OUTSIDE);
    d.due("n -1", x.method(4, 0, -1, 0, 0, INT, 0, 0, 0), OUTSIDE);
    d.due("n 3", x.method(4, 0, 3, 0, 0, INT, 0, 0, 0), OUTSIDE);
    d.due("first VOID", x.method(4, 0, 1, VOID, 0, INT, 0, 0, 0), OUTSIDE);
    d.due("second VOID", x.method(4, 0, 2, INT, VOID, INT, 0, 0, 0), OUTSIDE);
    d.due("gives -4", x.method(4, 0, 0, 0, 0, -4, 0, 0, 0), OUTSIDE);
    for (int marks : new int[] {-1, 3, 6, 7, 8, Integer.MIN_VALUE, Integer.MAX_VALUE}) {
      d.due("marks " + marks, x.method(5, 0, 0, 0, 0, INT, marks, 0, 0), OUTSIDE);
    }
    d.due("BODY -1", x.method(4, 0, 0, 0, 0, INT, 0, -1, 0), OUTSIDE);
    d.due("BODY 8", x.method(4, 0, 0, 0, 0, INT, 0, 8, 0), OUTSIDE);
    d.due("BODY 5, b -1", x.method(4, 0, 0, 0, 0, INT, 0, 5, -1), OUTSIDE);
    d.due("BODY 5, b 100", x.method(4, 0, 0, 0, 0, INT, 0, 5, 100), OUTSIDE);
    d.due("OUTSIDE ahead of STATE", x.method(4, 0, 0, 0, 0, INT, 2, 5, 100), OUTSIDE);
    d.due("told(1)", x.told(1), 0);
    d.due("BODY 5, b 0", x.method(4, 0, 0, 0, 0, INT, 0, 5, 0), 0);
    d.due("BODY 5, b 99", x.method(4, 1, 0, 0, 0, INT, 0, 5, 99), 1);
  }

  private static void abstractMethods() {
    ReflectModels x = sorts();
    for (int c : new int[] {0, 2, 3, 4}) {
      d.due("ABSTRACT in " + c, x.method(c, 0, 0, 0, 0, INT, 2, 0, 0), STATE);
    }
    d.due("a FACE's that is neither", x.method(1, 0, 0, 0, 0, INT, 0, 0, 0), STATE);
    d.due("a FACE's HIDDEN", x.method(1, 0, 0, 0, 0, INT, 4, 0, 0), STATE);
    d.due("a FACE's ABSTRACT", x.method(1, 0, 0, 0, 0, INT, 2, 0, 0), 0);
    d.due("a FACE's STATIC", x.method(1, 1, 0, 0, 0, INT, 1, 0, 0), 1);
    d.due("a FACE's STATIC, HIDDEN", x.method(1, 2, 0, 0, 0, INT, 5, 0, 0), 2);
    d.due("an ABSTRACT one's ABSTRACT", x.method(5, 0, 0, 0, 0, INT, 2, 0, 0), 3);
    d.due("an ABSTRACT one's HIDDEN", x.method(5, 1, 0, 0, 0, INT, 4, 0, 0), 4);
    // Every METHOD has a BODY by the document's words, and so that of an ABSTRACT one is looked at.
    d.due("ABSTRACT with a BODY that does not suit", x.method(5, 2, 0, 0, 0, INT, 2, 1, 0), STATE);
  }

  private static void bodiesAsTold() {
    ReflectModels x = sorts();
    x.field(4, 0, INT, false, false, false); // 0
    x.field(4, 1, INT, true, false, false); // 1
    x.method(4, 19, 0, 0, 0, INT, 0, 0, 0); // 2
    d.due("1 of one", x.method(4, 0, 1, INT, INT, INT, 0, 1, 0), STATE);
    d.due("1 of none", x.method(4, 0, 0, INT, INT, INT, 0, 1, 0), STATE);
    d.due("1 of LONG, INT", x.method(4, 0, 2, LONG, INT, INT, 0, 1, 0), STATE);
    d.due("1 of INT, LONG", x.method(4, 0, 2, INT, LONG, INT, 0, 1, 0), STATE);
    d.due("1", x.method(4, 0, 2, INT, INT, INT, 0, 1, 0), 3);
    for (int body : new int[] {2, 7}) {
      d.due(body + " of none", x.method(4, body, 0, 4, 4, 4, 0, body, 4), STATE);
      d.due(body + " of INT", x.method(4, body, 1, INT, 0, 4, 0, body, 4), STATE);
      d.due(body + " of INT, a class", x.method(4, body, 2, INT, 4, 4, 0, body, 4), STATE);
      d.due(body + " to class 6", x.method(4, body, 1, 4, 0, 4, 0, body, 6), STATE);
      d.due(body + " to class -1", x.method(4, body, 1, 4, 0, 4, 0, body, -1), STATE);
    }
    d.due("2", x.method(4, 2, 1, 4, 0, 4, 0, 2, 5), 4);
    d.due("7", x.method(4, 7, 2, 4, LONG, 4, 0, 7, 0), 5);
    d.due("3 of none", x.method(4, 3, 0, 4, 0, INT, 0, 3, 0), STATE);
    d.due("3 of INT", x.method(4, 3, 1, INT, 0, INT, 0, 3, 0), STATE);
    d.due("3 of a STATIC FIELD", x.method(4, 3, 1, 4, 0, INT, 0, 3, 1), STATE);
    d.due("3 of a METHOD", x.method(4, 3, 1, 4, 0, INT, 0, 3, 2), STATE);
    d.due("3 of MEMBER 6", x.method(4, 3, 1, 4, 0, INT, 0, 3, 6), STATE);
    d.due("3 of MEMBER -1", x.method(4, 3, 1, 4, 0, INT, 0, 3, -1), STATE);
    d.due("3 of MEMBER 99", x.method(4, 3, 1, 4, 0, INT, 0, 3, 99), STATE);
    d.due("3", x.method(4, 3, 1, 0, 0, INT, 0, 3, 0), 6);
    d.due("4 of none", x.method(4, 4, 0, INT, 0, INT, 0, 4, 0), STATE);
    d.due("4 of LONG", x.method(4, 4, 1, LONG, 0, INT, 0, 4, 0), STATE);
    d.due("4 of a class", x.method(4, 4, 1, 4, 0, INT, 0, 4, 0), STATE);
    d.due("4", x.method(4, 4, 2, INT, 4, INT, 0, 4, 0), 7);
    d.due("6, STATIC", x.method(4, 6, 0, 0, 0, 4, 1, 6, 0), STATE);
    d.due("6, STATIC, HIDDEN", x.method(4, 6, 0, 0, 0, 4, 5, 6, 0), STATE);
    d.due("6", x.method(4, 6, 0, 0, 0, 4, 0, 6, 0), 8);
  }

  private static void methodsThatAreThere() {
    ReflectModels x = sorts();
    x.method(4, 0, 1, INT, 0, INT, 0, 0, 0);
    d.due("the same", x.method(4, 0, 1, INT, 0, INT, 0, 0, 0), STATE);
    d.due("second is not looked at", x.method(4, 0, 1, INT, 77, LONG, 1, 5, 3), STATE);
    d.due("another TYPE", x.method(4, 0, 1, LONG, 0, INT, 0, 0, 0), 1);
    d.due("none", x.method(4, 0, 0, INT, 0, INT, 0, 0, 0), 2);
    d.due("none again", x.method(4, 0, 0, LONG, 5, INT, 0, 0, 0), STATE);
    d.due("two", x.method(4, 0, 2, INT, 0, INT, 0, 0, 0), 3);
    d.due("two others", x.method(4, 0, 2, INT, 1, INT, 0, 0, 0), 4);
    d.due("two again", x.method(4, 0, 2, INT, 1, INT, 0, 0, 0), STATE);
    d.due("INT is no class", x.method(4, 0, 1, 0, 0, INT, 0, 0, 0), 5);
    d.due("another name", x.method(4, 1, 1, INT, 0, INT, 0, 0, 0), 6);
    d.due("another class", x.method(5, 0, 1, INT, 0, INT, 0, 0, 0), 7);
  }

  private static void fullOfMembers() {
    ReflectModels x = sorts();
    for (int i = 0; i < 20; i++) {
      d.due("field " + i, x.field(4, i, INT, false, false, false), 2 * i);
      d.due("method " + i, x.method(5, i, 0, 0, 0, INT, 0, 0, 0), 2 * i + 1);
    }
    d.due("FULL of FIELDS", x.field(5, 0, INT, false, false, false), FULL);
    d.due("FULL of METHODS", x.method(4, 0, 0, 0, 0, INT, 0, 0, 0), FULL);
    d.due("STATE ahead of it", x.field(4, 0, INT, false, false, false), STATE);
    d.due("STATE ahead of it", x.method(5, 0, 0, 0, 0, INT, 0, 0, 0), STATE);
    d.due("BODY 3 of MEMBER 40", x.method(4, 0, 1, 4, 0, INT, 0, 3, 40), STATE);
    d.due("told(1)", x.told(1), 40);
    d.due("about(4, 4)", x.about(4, 4), 20);
  }

  private static void membersBehindObjects() {
    ReflectModels x = sorts();
    x.proxy(1, 0);
    d.due("a FIELD behind a PROXY", x.field(4, 0, INT, false, false, false), STATE);
    d.due("a METHOD behind a PROXY", x.method(4, 0, 0, 0, 0, INT, 0, 0, 0), STATE);
    d.due("OUTSIDE ahead of it", x.method(4, 20, 0, 0, 0, INT, 0, 0, 0), OUTSIDE);
    ReflectModels y = sorts();
    y.start(3);
    d.due("behind a START without CONSTANTS", y.field(3, 0, INT, false, false, false), 0);
    ReflectModels z = sorts();
    z.constants(3, 1);
    z.start(3);
    d.due("behind CONSTANTS", z.field(4, 0, INT, false, false, false), STATE);
    d.due("a class behind OBJECTS", z.type(4, 0, NONE, false, false), 6);
  }
}
