import java.util.ArrayList;
import java.util.HashMap;
import java.util.HashSet;
import java.util.List;
import java.util.Map;
import java.util.Set;
import java.util.function.IntSupplier;

/**
 * The document's rules once more, written down from its sentences with the Java library and with
 * exceptions, as slow and as plain as can be: what ReflectModels answers is held against it.
 */
final class OnPaper {
  private static final int NONE = -1, UNKNOWN = -2, OUTSIDE = -3, STATE = -4, FULL = -5;
  private static final Val NOTHING = new Val(0, 0);

  record Val(int kind, long number) {}

  static final class Cls {
    int number, sort, state, constants;
    Cls above, face;
    boolean shut, fails;
    final List<Integer> made = new ArrayList<>();
    final List<Member> members = new ArrayList<>();
  }

  static final class Member {
    int number, name, gives, body, b, type;
    List<Integer> types;
    Cls owner;
    boolean isField, isStatic, isFinal, isAbstract, isHidden;
  }

  static final class Handle {
    Member member;
    boolean leave;
  }

  static final class Obj {
    int number, handler, asked;
    Cls cls, proxied;
    final Map<Member, Val> fields = new HashMap<>();
  }

  private static final class Refused extends RuntimeException {
    private static final long serialVersionUID = 1;
    final int answer;

    Refused(int answer) {
      super(null, null, false, false);
      this.answer = answer;
    }
  }

  private static final class Failed extends RuntimeException {
    private static final long serialVersionUID = 1;
    final int failure, cause;

    Failed(int failure, int cause) {
      super(null, null, false, false);
      this.failure = failure;
      this.cause = cause;
    }
  }

  final List<Cls> classes = new ArrayList<>();
  final List<Member> members = new ArrayList<>();
  final List<Handle> handles = new ArrayList<>();
  final List<Obj> objects = new ArrayList<>();
  final List<Val> values = new ArrayList<>();
  private final Map<Member, Val> statics = new HashMap<>();
  private Cls caller;
  private Val result = NOTHING;
  private int latestFailure, latestCause;

  OnPaper() {
    caller = new Cls();
    classes.add(caller);
  }

  private int answer(IntSupplier act) {
    try {
      return act.getAsInt();
    } catch (Refused r) {
      return r.answer;
    } catch (Failed f) {
      latestFailure = f.failure;
      latestCause = f.failure == 6 ? f.cause : latestCause;
      return -10 - f.failure;
    }
  }

  private static void refuse(boolean is, int answer) {
    if (is) {
      throw new Refused(answer);
    }
  }

  private static void fail(boolean is, int failure) {
    if (is) {
      throw new Failed(failure, 0);
    }
  }

  private static void throwIf(boolean is, int cause) {
    if (is) {
      throw new Failed(6, cause);
    }
  }

  private static <T> T in(List<T> row, long i) {
    refuse(i < 0 || i >= row.size(), UNKNOWN);
    return row.get((int) i);
  }

  private static void within(long number, long least, long greatest) {
    refuse(number < least || number > greatest, OUTSIDE);
  }

  // ---- what there is

  int type(int above, int sort, int face, boolean shut, boolean fails) {
    return answer(() -> {
      Cls c = new Cls();
      c.above = in(classes, above);
      c.face = face == NONE ? null : in(classes, face);
      within(sort, 0, 4);
      refuse(c.above.sort == 3 || c.above.sort == 4, STATE);
      refuse(sort == 2 && above != 0 && c.above.sort != 2, STATE);
      refuse((sort == 3 || sort == 4) && above != 0, STATE);
      refuse(c.face != null && (sort == 2 || c.face.sort != 2), STATE);
      refuse(classes.size() == 16, FULL);
      c.number = classes.size();
      c.sort = sort;
      c.shut = shut;
      c.fails = fails;
      classes.add(c);
      return c.number;
    });
  }

  int constants(int c, int n) {
    return answer(() -> {
      Cls cls = in(classes, c);
      within(n, 1, 4);
      refuse(cls.sort != 4 || cls.constants != 0 || cls.state != 0, STATE);
      cls.constants = n;
      return 1;
    });
  }

  private void typeIsThere(int type) {
    refuse(type >= classes.size(), UNKNOWN);
  }

  private int tell(Member m) {
    refuse(members.size() == 40, FULL);
    m.number = members.size();
    members.add(m);
    m.owner.members.add(m);
    return m.number;
  }

  int field(int c, int name, int type, boolean isStatic, boolean isFinal, boolean hidden) {
    return answer(() -> {
      Member m = new Member();
      m.isField = true;
      m.owner = in(classes, c);
      typeIsThere(type);
      within(name, 0, 19);
      within(type, -2, 15);
      m.name = name;
      m.type = type;
      m.isStatic = isStatic;
      m.isFinal = isFinal;
      m.isHidden = hidden;
      refuse(ownField(m.owner, name) != null, STATE);
      refuse(!isStatic && (c == 0 || m.owner.sort == 2), STATE);
      refuse(m.owner.sort == 3 && (isStatic || !isFinal), STATE);
      refuse(!objects.isEmpty(), STATE);
      return tell(m);
    });
  }

  private List<Integer> types(int n, int first, int second) {
    List<Integer> row = new ArrayList<>();
    if (n > 0) {
      row.add(first);
    }
    if (n > 1) {
      row.add(second);
    }
    return row;
  }

  int method(int c, int name, int n, int first, int second, int gives, int marks, int body, int b) {
    return answer(() -> {
      Member m = new Member();
      m.owner = in(classes, c);
      m.types = types(n, first, second);
      m.types.forEach(this::typeIsThere);
      typeIsThere(gives);
      within(name, 0, 19);
      within(n, 0, 2);
      m.types.forEach(t -> within(t, -2, 15));
      within(gives, -3, 15);
      within(marks, 0, 7);
      refuse(marks == 3 || marks == 6 || marks == 7, OUTSIDE);
      within(body, 0, 7);
      within(body == 5 ? b : 0, 0, 99);
      m.name = name;
      m.gives = gives;
      m.isStatic = marks % 2 == 1;
      m.isAbstract = marks == 2;
      m.isHidden = marks >= 4;
      m.body = body;
      m.b = b;
      refuse(m.isAbstract && m.owner.sort != 1 && m.owner.sort != 2, STATE);
      refuse(m.owner.sort == 2 && !m.isStatic && !m.isAbstract, STATE);
      refuse(!bodyIsAsTold(m), STATE);
      refuse(ownMethod(m.owner, name, m.types) != null, STATE);
      refuse(!objects.isEmpty(), STATE);
      return tell(m);
    });
  }

  private boolean bodyIsAsTold(Member m) {
    boolean ofClass = !m.types.isEmpty() && m.types.get(0) >= 0;
    boolean classB = m.b >= 0 && m.b < classes.size();
    boolean memberB = m.b >= 0 && m.b < members.size();
    return switch (m.body) {
      case 1 -> m.types.equals(List.of(-1, -1));
      case 2, 7 -> ofClass && classB;
      case 3 -> ofClass && memberB && members.get(m.b).isField && !members.get(m.b).isStatic;
      case 4 -> !m.types.isEmpty() && m.types.get(0) == -1;
      case 6 -> !m.isStatic;
      default -> true;
    };
  }

  // ---- looking

  private static Member ownField(Cls c, int name) {
    return c.members.stream().filter(m -> m.isField && m.name == name).findFirst().orElse(null);
  }

  private static Member ownMethod(Cls c, int name, List<Integer> types) {
    return c.members.stream().filter(m -> !m.isField && m.name == name && m.types.equals(types)).findFirst().orElse(null);
  }

  /** It, then those ABOVE it. */
  private static List<Cls> upwards(Cls c) {
    List<Cls> row = new ArrayList<>();
    for (Cls k = c; k != null; k = k.above) {
      row.add(k);
    }
    return row;
  }

  int caller(int c) {
    return answer(() -> {
      Cls now = in(classes, c);
      int was = caller.number;
      caller = now;
      return was;
    });
  }

  private int handleOf(Member m) {
    fail(m == null, 1);
    refuse(handles.size() == 60, FULL);
    Handle h = new Handle();
    h.member = m;
    handles.add(h);
    return handles.size() - 1;
  }

  int findField(int c, int name, boolean up) {
    return answer(() -> {
      Cls cls = in(classes, c);
      within(name, 0, 19);
      if (!up) {
        return handleOf(ownField(cls, name));
      }
      return handleOf(upwards(cls).stream().map(k -> ownField(k, name)).filter(m -> m != null && !m.isHidden)
          .findFirst().orElse(null));
    });
  }

  int findMethod(int c, int name, int n, int first, int second, boolean up) {
    return answer(() -> {
      Cls cls = in(classes, c);
      List<Integer> types = types(n, first, second);
      types.forEach(this::typeIsThere);
      within(name, 0, 19);
      within(n, 0, 2);
      types.forEach(t -> within(t, -2, 15));
      if (!up) {
        return handleOf(ownMethod(cls, name, types));
      }
      List<Cls> where = upwards(cls);
      upwards(cls).forEach(k -> where.addAll(upwards(k.face)));
      return handleOf(where.stream().map(k -> ownMethod(k, name, types)).filter(m -> m != null && !m.isHidden)
          .findFirst().orElse(null));
    });
  }

  int leave(int h) {
    return answer(() -> {
      Handle handle = in(handles, h);
      fail(handle.member.owner.shut && handle.member.owner != caller, 2);
      handle.leave = true;
      return 1;
    });
  }

  // ---- acts: VALUES

  int value(int k, int kind, long v) {
    return answer(() -> {
      if (kind == 3) {
        in(objects, v);
      }
      within(k, 0, Math.min(2, values.size()));
      within(kind, 0, 3);
      within(kind == 1 ? v : 0, Integer.MIN_VALUE, Integer.MAX_VALUE);
      values.subList(k, values.size()).clear();
      values.add(kind == 0 ? NOTHING : new Val(kind, v));
      return values.size();
    });
  }

  Set<Cls> of(Obj o) {
    Set<Cls> all = new HashSet<>(upwards(o.proxied));
    for (Cls k : upwards(o.cls)) {
      all.add(k);
      all.addAll(upwards(k.face));
    }
    return all;
  }

  /** What becomes of a VALUE where a TYPE is asked for; null, if it does not FIT. */
  Val fit(Val v, int type) {
    if (type == -1) {
      return v.kind == 1 ? v : null;
    }
    if (type == -2) {
      return v.kind == 1 || v.kind == 2 ? new Val(2, v.number) : null;
    }
    boolean fits = v.kind == 0 || v.kind == 3 && of(objects.get((int) v.number)).contains(classes.get(type));
    return fits ? v : null;
  }

  private boolean allFit(List<Integer> types) {
    boolean fits = types.size() == values.size();
    for (int i = 0; fits && i < types.size(); i++) {
      fits = fit(values.get(i), types.get(i)) != null;
    }
    return fits;
  }

  private void mayUse(Handle h) {
    fail(handleMay(h) == 0, 2);
  }

  private int handleMay(Handle h) {
    return !h.member.isHidden || h.member.owner == caller || h.leave ? 1 : 0;
  }

  private void begin(Cls c) {
    if (c.state == 1) {
      return;
    }
    fail(c.state == 2, 9);
    try {
      if (c.above != null) {
        begin(c.above);
      }
      fail(c.fails, 8);
    } catch (Failed f) {
      c.state = 2;
      throw f;
    }
    c.state = 1;
    for (int i = 0; i < c.constants; i++) {
      c.made.add(add(c, null, -1));
    }
  }

  private int add(Cls c, Cls proxied, int handler) {
    Obj o = new Obj();
    o.number = objects.size();
    o.cls = c;
    o.proxied = proxied;
    o.handler = handler;
    objects.add(o);
    return o.number;
  }

  private Obj receiver(int o) {
    return o == NONE ? null : in(objects, o);
  }

  private void reach(Member m, Obj o) {
    if (m.isStatic) {
      begin(m.owner);
      return;
    }
    fail(o == null, 4);
    fail(!of(o).contains(m.owner), 3);
  }

  private Map<Member, Val> placeOf(Member m, Obj o) {
    return m.isStatic ? statics : o.fields;
  }

  private static Val first(int type) {
    return type == -1 ? new Val(1, 0) : type == -2 ? new Val(2, 0) : NOTHING;
  }

  int get(int h, int receiver, int as) {
    return answer(() -> {
      Handle handle = in(handles, h);
      Obj o = receiver(receiver);
      within(as, -2, 0);
      Member m = handle.member;
      refuse(!m.isField, STATE);
      result = NOTHING;
      mayUse(handle);
      fail(as == -1 && m.type != -1, 3);
      fail(as == -2 && m.type != -1 && m.type != -2, 3);
      reach(m, o);
      Val held = placeOf(m, o).getOrDefault(m, first(m.type));
      result = as == -2 ? new Val(2, held.number) : held;
      return 1;
    });
  }

  int set(int h, int receiver) {
    return answer(() -> {
      Handle handle = in(handles, h);
      Obj o = receiver(receiver);
      Member m = handle.member;
      refuse(!m.isField || values.isEmpty(), STATE);
      mayUse(handle);
      reach(m, o);
      fail(m.isFinal && (m.isStatic || m.owner.sort == 3 || !handle.leave), 7);
      Val v = fit(values.get(0), m.type);
      fail(v == null, 3);
      placeOf(m, o).put(m, v);
      return 1;
    });
  }

  int call(int h, int receiver) {
    return answer(() -> {
      Handle handle = in(handles, h);
      Obj o = receiver(receiver);
      Member m = handle.member;
      refuse(m.isField, STATE);
      result = NOTHING;
      mayUse(handle);
      if (m.isStatic) {
        fail(!allFit(m.types), 3);
        reach(m, o);
      } else {
        reach(m, o);
        fail(!allFit(m.types), 3);
      }
      result = doneBy(m, o);
      return 1;
    });
  }

  private Val doneBy(Member m, Obj o) {
    List<Val> args = new ArrayList<>();
    for (int i = 0; i < m.types.size(); i++) {
      args.add(fit(values.get(i), m.types.get(i)));
    }
    if (!m.isStatic && m.owner.sort == 2 && o.proxied != null) {
      return given(handled(o, args), m.gives);
    }
    Member done = m.isHidden || m.isStatic ? m : upwards(o.cls).stream().map(k -> ownMethod(k, m.name, m.types))
        .filter(k -> k != null && !k.isHidden && !k.isStatic && !k.isAbstract).findFirst().orElse(null);
    throwIf(done == null, 6);
    Val v = given(bodyOf(done, o, args), done.gives);
    return done == m ? v : given(v, m.gives);
  }

  private Val given(Val v, int gives) {
    if (gives == -3) {
      return NOTHING;
    }
    Val fitted = fit(v, gives);
    throwIf(fitted == null && v.kind == 0, 3);
    throwIf(fitted == null, 2);
    return fitted;
  }

  private Val handled(Obj o, List<Val> args) {
    o.asked++;
    throwIf(o.handler == 2, 107);
    if (o.handler == 0) {
      return new Val(1, o.asked);
    }
    return o.handler == 3 && !args.isEmpty() ? args.get(0) : NOTHING;
  }

  private Val bodyOf(Member m, Obj o, List<Val> args) {
    Val first = args.isEmpty() ? NOTHING : args.get(0);
    switch (m.body) {
      case 1:
        throwIf(args.get(1).number == 0, 1);
        return new Val(1, (int) (first.number / args.get(1).number));
      case 2:
        throwIf(fit(first, m.b) == null, 2);
        return first;
      case 3:
        Member f = members.get(m.b);
        throwIf(first.kind == 0, 3);
        throwIf(fit(first, f.owner.number) == null, 2);
        return objects.get((int) first.number).fields.getOrDefault(f, first(f.type));
      case 4:
        throwIf(first.number < 0 || first.number > 2, 4);
        return new Val(1, (int) (m.b + first.number));
      case 5:
        throw new Failed(6, 100 + m.b);
      case 6:
        return new Val(3, o.number);
      case 7:
        throwIf(fit(first, m.b) == null, 5);
        return m.gives < 0 && m.gives > -3 ? first(m.gives) : NOTHING;
      default:
        return m.gives == -1 || m.gives == -2 ? new Val(-m.gives, m.b) : NOTHING;
    }
  }

  int make(int c) {
    return answer(() -> {
      Cls cls = in(classes, c);
      refuse(objects.size() >= 60, FULL);
      fail(cls.sort == 1 || cls.sort == 2, 5);
      fail(cls.sort == 4, 3);
      List<Member> fields = cls.members.stream().filter(m -> m.isField && cls.sort == 3).toList();
      fail(!allFit(fields.stream().map(m -> m.type).toList()), 3);
      begin(cls);
      Obj o = objects.get(add(cls, null, -1));
      for (int i = 0; i < fields.size(); i++) {
        o.fields.put(fields.get(i), fit(values.get(i), fields.get(i).type));
      }
      return o.number;
    });
  }

  int proxy(int face, int handler) {
    return answer(() -> {
      Cls cls = in(classes, face);
      within(handler, 0, 3);
      refuse(cls.sort != 2, STATE);
      refuse(objects.size() >= 60, FULL);
      return add(classes.get(0), cls, handler);
    });
  }

  int constant(int c, int i) {
    return answer(() -> {
      Cls cls = in(classes, c);
      refuse(cls.sort != 4, STATE);
      begin(cls);
      return i < 0 || i >= cls.made.size() ? NONE : cls.made.get(i);
    });
  }

  int start(int c) {
    return answer(() -> {
      begin(in(classes, c));
      return 1;
    });
  }

  // ---- what came

  int resultKind() {
    return result.kind;
  }

  long result() {
    return result.number;
  }

  int cause() {
    return latestCause;
  }

  int about(int c, int what) {
    return answer(() -> {
      Cls cls = in(classes, c);
      within(what, 0, 4);
      int above = cls.above == null ? NONE : cls.above.number;
      int face = cls.face == null ? NONE : cls.face.number;
      return new int[] {cls.sort, above, face, cls.state, cls.members.size()}[what];
    });
  }

  int is(int o, int c) {
    return answer(() -> of(in(objects, o)).contains(in(classes, c)) ? 1 : 0);
  }

  int handle(int h, int what) {
    return answer(() -> {
      Handle handle = in(handles, h);
      within(what, 0, 2);
      return new int[] {handle.member.number, handle.leave ? 1 : 0, handleMay(handle)}[what];
    });
  }

  int told(int what) {
    return answer(() -> {
      within(what, 0, 5);
      return new int[] {
        classes.size(), members.size(), handles.size(), objects.size(), values.size(), latestFailure}[what];
    });
  }
}
