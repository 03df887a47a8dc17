import java.util.ArrayDeque;
import java.util.ArrayList;
import java.util.Deque;
import java.util.List;
import java.util.Random;

/** Picks the calls of a random run: mostly such as come to something, by what stands on paper, and some odd ones. */
final class Player {
  record Call(String name, Object... args) {
    @Override
    public String toString() {
      List<String> texts = new ArrayList<>();
      for (Object arg : args) {
        texts.add(arg.toString());
      }
      return name + "(" + String.join(", ", texts) + ")";
    }
  }

  private static final int[] ODD = {
    Integer.MIN_VALUE, Integer.MIN_VALUE + 1, -20, -5, -4, -3, -2, -1, 0, 1, 2, 3, 4, 5, 8, 15, 16, 19, 20, 39, 40, 59,
    60, 61, 99, 100, 1 << 16, Integer.MAX_VALUE - 1, Integer.MAX_VALUE};
  private static final int[][] TYPES = {{}, {-1}, {-1, -1}, {-2}, {0}, {0, -2}, {1}, {-1, 0}};

  private final Random r;
  private final OnPaper paper;
  private final Deque<Call> planned = new ArrayDeque<>();
  /** VALUES never come to none again, so what asks for none of them must come ahead of them. */
  private final int telling, withoutValues;
  private final boolean many;
  private int calls = 0;

  Player(Random r, OnPaper paper) {
    this.r = r;
    this.paper = paper;
    this.telling = 10 + r.nextInt(120);
    this.withoutValues = telling + r.nextInt(200);
    this.many = r.nextInt(8) == 0;
  }

  Call next() {
    calls++;
    if (planned.isEmpty()) {
      plan();
    }
    return planned.remove();
  }

  private boolean chance(int of) {
    return r.nextInt(of) == 0;
  }

  private int odd() {
    return ODD[r.nextInt(ODD.length)];
  }

  private int near(int number) {
    return chance(40) ? odd() : number;
  }

  private int below(int count) {
    return near(r.nextInt(Math.max(1, count)));
  }

  private void plan(String name, Object... args) {
    planned.add(new Call(name, args));
  }

  private void plan() {
    if (calls <= telling) {
      planTelling(r.nextInt(12));
    } else {
      planAct(r.nextInt(calls <= withoutValues ? 20 : 22));
    }
  }

  private void planTelling(int which) {
    if (which < 3) {
      planType();
    } else if (which < 5) {
      planField();
    } else if (which < 10) {
      planMethod();
    } else if (which == 10) {
      plan("constants", below(paper.classes.size()), near(1 + r.nextInt(4)));
    } else {
      planFind();
    }
  }

  private void planAct(int which) {
    switch (which) {
      case 0, 1, 2, 3 -> planFind();
      case 4 -> plan("leave", below(paper.handles.size()));
      case 5 -> plan("caller", below(paper.classes.size()));
      case 6 -> planTelling(r.nextInt(11));
      case 7 -> plan("start", below(paper.classes.size()));
      case 8 -> planConstant();
      case 9 -> plan("proxy", near(ofSort(2)), near(r.nextInt(4)));
      case 10, 11 -> planMake();
      case 12, 13 -> planGet();
      case 14 -> planSet();
      case 15, 16, 17 -> planCall();
      case 18 -> planAsk();
      case 19 -> planMany();
      default -> plan("value", below(4), near(r.nextInt(4)), number());
    }
  }

  /** Some runs go on until there are too many of a sort. */
  private void planMany() {
    if (!many) {
      planAsk();
      return;
    }
    for (int i = 0; i < 12; i++) {
      plan("make", 0);
      plan("proxy", ofSort(2), r.nextInt(4));
      planFind();
    }
    planType();
    planField();
  }

  private long number() {
    int pick = r.nextInt(6);
    return pick == 0 ? r.nextLong() : pick == 1 ? odd() : r.nextInt(5) - 1;
  }

  /** A class of a SORT, if there is one. */
  private int ofSort(int sort) {
    List<Integer> row = new ArrayList<>();
    paper.classes.stream().filter(c -> c.sort == sort).forEach(c -> row.add(c.number));
    return row.isEmpty() || chance(12) ? r.nextInt(paper.classes.size()) : row.get(r.nextInt(row.size()));
  }

  private int anyType() {
    return chance(2) ? below(paper.classes.size()) : near(-1 - r.nextInt(2));
  }

  private void planType() {
    int sort = near(r.nextInt(5));
    int above = sort == 2 && chance(2) ? ofSort(2) : sort < 2 && !chance(3) ? ofSort(r.nextInt(2)) : chance(6) ? 1 : 0;
    int face = sort != 2 && chance(2) || chance(20) ? ofSort(2) : -1;
    plan("type", near(above), sort, near(face), chance(4), chance(8));
  }

  private void planField() {
    int c = below(paper.classes.size());
    boolean isThere = c >= 0 && c < paper.classes.size();
    int sort = isThere ? paper.classes.get(c).sort : 0;
    boolean asItMay = !chance(8);
    boolean isStatic = asItMay && (c == 0 || sort == 2) || !(asItMay && sort == 3) && chance(3);
    boolean isFinal = asItMay && sort == 3 || chance(3);
    plan("field", c, near(r.nextInt(4)), anyType(), isStatic, isFinal, chance(3));
  }

  private void planMethod() {
    int c = below(paper.classes.size());
    boolean isThere = c >= 0 && c < paper.classes.size();
    int sort = isThere ? paper.classes.get(c).sort : 0;
    int body = near(r.nextInt(8));
    int[] types = typesFor(body);
    int n = near(types.length);
    int first = types.length > 0 ? types[0] : odd();
    int second = types.length > 1 ? types[1] : odd();
    int marks = sort == 2 ? (chance(3) ? 1 : 2) : sort == 1 && chance(2) ? 2 : chance(3) ? (chance(2) ? 4 : 5) : chance(3) ? 1 : 0;
    int gives = chance(8) ? -3 : anyType();
    plan("method", c, near(r.nextInt(3)), n, near(first), near(second), gives, near(marks), body, numberFor(body));
  }

  private int[] typesFor(int body) {
    if (chance(10)) {
      return new int[] {anyType(), anyType()};
    }
    return switch (body) {
      case 1 -> TYPES[2];
      case 2, 3, 7 -> TYPES[4 + r.nextInt(3)];
      case 4 -> chance(2) ? TYPES[1] : TYPES[7];
      default -> TYPES[r.nextInt(TYPES.length)];
    };
  }

  private int numberFor(int body) {
    return switch (body) {
      case 0 -> odd();
      case 2, 7 -> below(paper.classes.size());
      case 3 -> below(paper.members.size());
      case 5 -> near(r.nextInt(100));
      default -> chance(3) ? odd() : r.nextInt(9);
    };
  }

  /** A class that the MEMBER may be found from. */
  private int under(OnPaper.Cls owner) {
    List<Integer> row = new ArrayList<>();
    for (OnPaper.Cls c : paper.classes) {
      for (OnPaper.Cls k = c; k != null; k = k.above) {
        if (k == owner || k.face == owner || k.face != null && k.face.above == owner) {
          row.add(c.number);
        }
      }
    }
    return row.get(r.nextInt(row.size()));
  }

  private void planFind() {
    if (paper.members.isEmpty() || chance(20)) {
      plan("findField", below(paper.classes.size()), below(6), chance(2));
      plan("findMethod", below(paper.classes.size()), below(6), below(3), anyType(), anyType(), chance(2));
      return;
    }
    OnPaper.Member m = paper.members.get(r.nextInt(paper.members.size()));
    boolean up = chance(2);
    int c = near(up ? under(m.owner) : m.owner.number);
    if (m.isField) {
      plan("findField", c, near(m.name), up);
    } else {
      int first = m.types.isEmpty() ? odd() : m.types.get(0);
      int second = m.types.size() < 2 ? odd() : m.types.get(1);
      plan("findMethod", c, near(m.name), near(m.types.size()), near(first), near(second), up);
    }
    int h = paper.handles.size();
    if (!chance(3)) {
      plan("handle", h, 0);
    }
    if (chance(3)) {
      plan("leave", h);
    }
  }

  private int handleOf(boolean field) {
    List<Integer> row = new ArrayList<>();
    for (int h = 0; h < paper.handles.size(); h++) {
      if (paper.handles.get(h).member.isField == field) {
        row.add(h);
      }
    }
    return row.isEmpty() || chance(20) ? below(paper.handles.size()) : row.get(r.nextInt(row.size()));
  }

  private OnPaper.Member memberOf(int h) {
    return h >= 0 && h < paper.handles.size() ? paper.handles.get(h).member : null;
  }

  /** An OBJECT of the class, if there is one. */
  private int objectOf(OnPaper.Cls c) {
    List<Integer> row = new ArrayList<>();
    paper.objects.stream().filter(o -> paper.of(o).contains(c)).forEach(o -> row.add(o.number));
    return row.isEmpty() ? -1 : row.get(r.nextInt(row.size()));
  }

  private int receiverFor(OnPaper.Member m) {
    int any = r.nextInt(paper.objects.size() + 1) - 1;
    return near(m == null || chance(8) ? any : objectOf(m.owner));
  }

  private boolean mayPlanValues() {
    return calls > withoutValues && !chance(10);
  }

  private void planValue(int k, int type) {
    if (chance(10)) {
      plan("value", near(k), near(r.nextInt(4)), number());
    } else if (type == -1) {
      plan("value", k, 1, (long) (int) number());
    } else if (type == -2) {
      plan("value", k, 1 + r.nextInt(2), (long) (int) number());
    } else {
      int o = chance(5) ? r.nextInt(paper.objects.size() + 1) - 1 : objectOf(paper.classes.get(type));
      plan("value", k, o < 0 || chance(6) ? 0 : 3, (long) o);
    }
  }

  private void planGet() {
    int h = handleOf(true);
    OnPaper.Member m = memberOf(h);
    plan("get", h, receiverFor(m), near(-r.nextInt(3)));
    planResult();
  }

  private void planSet() {
    int h = handleOf(true);
    OnPaper.Member m = memberOf(h);
    if (m != null && m.isField && mayPlanValues()) {
      planValue(0, m.type);
    }
    int o = receiverFor(m);
    plan("set", h, o);
    plan("get", h, o, 0);
    planResult();
  }

  private void planCall() {
    int h = handleOf(false);
    OnPaper.Member m = memberOf(h);
    if (m != null && !m.isField && mayPlanValues()) {
      for (int i = 0; i < m.types.size(); i++) {
        planValue(i, m.types.get(i));
      }
    }
    plan("call", h, receiverFor(m));
    planResult();
    plan("cause");
  }

  private void planResult() {
    plan("resultKind");
    plan("result");
  }

  private void planMake() {
    int c = below(paper.classes.size());
    if (c >= 0 && c < paper.classes.size() && paper.classes.get(c).sort == 3 && mayPlanValues()) {
      List<OnPaper.Member> fields = paper.classes.get(c).members.stream().filter(m -> m.isField).toList();
      for (int i = 0; i < fields.size() && i < 3; i++) {
        planValue(i, fields.get(i).type);
      }
    }
    plan("make", c);
  }

  private void planConstant() {
    int c = ofSort(4);
    plan("constant", near(c), near(r.nextInt(5)));
  }

  private void planAsk() {
    switch (r.nextInt(6)) {
      case 0 -> plan("about", below(paper.classes.size()), near(3));
      case 1 -> plan("about", below(paper.classes.size()), near(r.nextInt(5)));
      case 2 -> plan("is", below(paper.objects.size()), below(paper.classes.size()));
      case 3 -> plan("handle", below(paper.handles.size()), near(r.nextInt(3)));
      case 4 -> plan("told", near(r.nextInt(6)));
      default -> planResult();
    }
  }
}
