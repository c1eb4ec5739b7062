/** Counts answers that are not the ones that are due, and prints them. */
final class Check {
  interface Call {
    void run();
  }

  private String promise = "";
  private int checks = 0;
  private int faults = 0;

  void promise(int number, String name) {
    promise = "promise " + number + " (" + name + ")";
  }

  void is(String what, long got, long due) {
    tell(what, Long.toString(got), Long.toString(due));
  }

  void is(String what, double got, double due) {
    tell(what, Double.toString(got), Double.toString(due));
  }

  void is(String what, char got, char due) {
    tell(what, Character.toString(got), Character.toString(due));
  }

  void is(String what, boolean got, boolean due) {
    tell(what, Boolean.toString(got), Boolean.toString(due));
  }

  void fails(String what, Class<? extends RuntimeException> due, Call call) {
    String got = "nothing thrown";
    try {
      call.run();
    } catch (RuntimeException e) {
      got = e.getClass().getName();
    }
    tell(what, got, due.getName());
  }

  /** Ends the test: exit code 1 if there was a fault. */
  void end() {
    System.out.println(checks + " checks, " + faults + " faults");
    if (faults > 0) {
      System.exit(1);
    }
  }

  private void tell(String what, String got, String due) {
    checks++;
    if (!got.equals(due)) {
      faults++;
      System.out.println(promise + ": " + what + " answered " + got + ", due is " + due);
    }
  }
}
