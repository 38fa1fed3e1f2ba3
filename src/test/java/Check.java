/** Counts and prints the answers that are not as due; ends a test with exit code 1 if there was one. */
final class Check {
  private int wrong = 0;
  private int asked = 0;

  void due(String call, long got, long want) {
    asked++;
    if (got != want) {
      wrong++;
      if (wrong <= 50) {
        System.out.println(call + " answered " + got + ", due is " + want);
      }
    }
  }

  void due(String call, boolean got, boolean want) {
    due(call, got ? 1 : 0, want ? 1 : 0);
  }

  void end() {
    System.out.println(asked + " answers, " + wrong + " not as due");
    if (wrong != 0) {
      System.exit(1);
    }
  }
}
