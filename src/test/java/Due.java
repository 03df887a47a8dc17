/** Counts and prints the answers that are not as due; the tests of the project share it. */
final class Due {
  private int wrong = 0;
  private String sentence = "";

  /** The words of the document that the answers due from here on follow from: printed with a wrong one. */
  void sentence(String words) {
    sentence = "\"" + words + "\": ";
  }

  void due(String call, long got, long want) {
    if (got != want) {
      wrong++;
      System.out.println(sentence + call + " answered " + got + ", due is " + want);
    }
  }

  void holds(String what, boolean holds) {
    if (!holds) {
      wrong++;
      System.out.println(sentence + "does not hold: " + what);
    }
  }

  /** A RESULT: its kind and its number. */
  void result(String call, ReflectModels x, int kind, long number) {
    due("resultKind() behind " + call, x.resultKind(), kind);
    due("result() behind " + call, x.result(), number);
  }

  /** A call that ends WRAPPED, with its CAUSE. */
  void wrapped(String call, ReflectModels x, int answer, int cause) {
    due(call, answer, -16);
    due("cause() behind " + call, x.cause(), cause);
    due("told(5) behind " + call, x.told(5), 6);
    result(call, x, 0, 0);
  }

  /** A call that comes to a RESULT. */
  void gives(String call, ReflectModels x, int answer, int kind, long number) {
    due(call, answer, 1);
    result(call, x, kind, number);
  }

  void end() {
    System.out.println(wrong == 0 ? "all answers are as due" : wrong + " answers are not as due");
    if (wrong != 0) {
      System.exit(1);
    }
  }
}
