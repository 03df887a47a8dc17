import java.lang.reflect.InvocationTargetException;
import java.lang.reflect.Method;
import java.util.ArrayList;
import java.util.HashMap;
import java.util.List;
import java.util.Map;
import java.util.Random;
import java.util.TreeMap;

/**
 * Random runs of 512 calls: every answer is the one that the rules on paper give, none throws, and
 * a run answers the same without the calls in it that were refused.
 */
public final class RandomRunsTest {
  private static final int RUNS = 1200, CALLS = 512;
  /** What the runs must have met, so that they are worth something: a call, and its answers. */
  private static final String[] MET = {
    "type -2 -3 -4 -5", "constants 1 -2 -3 -4", "field -2 -3 -4 -5", "method -2 -3 -4 -5", "caller -2",
    "findField -2 -3 -5 -11", "findMethod -2 -3 -5 -11", "leave 1 -2 -12", "value 1 2 3 -2 -3",
    "get 1 -2 -3 -4 -12 -13 -14 -18 -19", "set 1 -2 -4 -12 -13 -14 -17 -18 -19",
    "call 1 -2 -4 -12 -13 -14 -16 -18 -19", "make -2 -5 -13 -15 -18 -19", "proxy -2 -3 -4 -5",
    "constant -1 -2 -4 -18 -19", "start 1 -2 -18 -19", "resultKind 0 1 2 3", "cause 0 1 2 3 4 5 6 100 107 199",
    "about -1 -2 -3", "is 0 1 -2", "handle 0 1 -2 -3", "told 0 1 2 3 4 5 6 7 8 9 -3"};
  private static final Map<String, Method> onPaper = methodsOf(OnPaper.class);
  private static final Map<String, Method> inClass = methodsOf(ReflectModels.class);
  private static final Map<String, Map<Long, Integer>> met = new TreeMap<>();
  private static final Due d = new Due();

  public static void main(String[] args) {
    for (int run = 0; run < RUNS; run++) {
      List<Player.Call> calls = new ArrayList<>();
      List<Long> answers = new ArrayList<>();
      play(run, calls, answers);
      playWithoutRefused(run, calls, answers);
    }
    for (String row : MET) {
      String[] words = row.split(" ");
      for (int i = 1; i < words.length; i++) {
        boolean was = met.getOrDefault(words[0], Map.of()).containsKey(Long.parseLong(words[i]));
        d.holds("the runs met " + words[0] + "() with the answer " + words[i], was);
      }
    }
    d.end();
  }

  private static Map<String, Method> methodsOf(Class<?> c) {
    Map<String, Method> all = new HashMap<>();
    for (Method m : c.getDeclaredMethods()) {
      if (inFace(m.getName())) {
        all.put(m.getName(), m);
      }
    }
    return all;
  }

  private static boolean inFace(String name) {
    for (Method m : ReflectModels.class.getMethods()) {
      if (m.getDeclaringClass() == ReflectModels.class && m.getName().equals(name)) {
        return true;
      }
    }
    return false;
  }

  private static long answer(Map<String, Method> methods, Object of, Player.Call call) {
    try {
      return ((Number) methods.get(call.name()).invoke(of, call.args())).longValue();
    } catch (InvocationTargetException e) {
      throw new IllegalStateException(call + " threw " + e.getCause(), e.getCause());
    } catch (IllegalAccessException e) {
      throw new IllegalStateException(e);
    }
  }

  private static void play(int run, List<Player.Call> calls, List<Long> answers) {
    ReflectModels x = new ReflectModels();
    OnPaper paper = new OnPaper();
    Player player = new Player(new Random(run), paper);
    boolean same = true;
    for (int i = 0; i < CALLS && same; i++) {
      Player.Call call = player.next();
      long due = answer(onPaper, paper, call);
      long got = answer(inClass, x, call);
      d.due("run " + run + ", call " + i + ": " + call, got, due);
      same = got == due;
      calls.add(call);
      answers.add(got);
      met.computeIfAbsent(call.name(), k -> new TreeMap<>()).merge(got, 1, Integer::sum);
    }
  }

  private static boolean isRefused(Player.Call call, long answer) {
    return answer <= ReflectModels.UNKNOWN && answer >= ReflectModels.FULL && !call.name().equals("result");
  }

  private static void playWithoutRefused(int run, List<Player.Call> calls, List<Long> answers) {
    ReflectModels x = new ReflectModels();
    boolean same = true;
    for (int i = 0; i < calls.size() && same; i++) {
      Player.Call call = calls.get(i);
      if (!isRefused(call, answers.get(i))) {
        long got = answer(inClass, x, call);
        d.due("run " + run + " without the refused calls, call " + i + ": " + call, got, answers.get(i));
        same = got == answers.get(i);
      }
    }
  }
}
