import java.io.IOException;
import java.nio.file.Files;
import java.nio.file.Path;

/** Counts answers that are not the ones that are due, and prints them. */
final class Check {
  private static final Path DOCUMENT = Path.of("../shared/DOC.md");

  interface Call {
    void run();
  }

  private String label = "";
  private String document = "";
  private int checks = 0;
  private int faults = 0;

  void about(String what) {
    label = what;
  }

  void promise(int number, String name) {
    about("promise " + number + " (" + name + ")");
  }

  /** What is checked from now on stands in the document with these very words. */
  void sentence(String words) {
    label = "\"" + words + "\"";
    if (!document().contains(words)) {
      tell("the document", "has no such words", "");
    }
  }

  /** The document with one space wherever it has spaces and ends of lines. */
  private String document() {
    if (document.isEmpty()) {
      try {
        document = Files.readString(DOCUMENT).replaceAll("\\s+", " ");
      } catch (IOException e) {
        throw new IllegalStateException(e);
      }
    }
    return document;
  }

  void is(String what, String got, String due) {
    tell(what, got, due);
  }

  void holds(String what, boolean holds) {
    tell(what, holds ? "so" : "not so", "so");
  }

  void is(String what, long got, long due) {
    tell(what, Long.toString(got), Long.toString(due));
  }

  void is(String what, double got, double due) {
    tell(what, Double.toString(got), Double.toString(due));
  }

  void is(String what, char got, char due) {
    tell(what, Character.toString(got), Character.toString(due));
  }

  void is(String what, boolean got, boolean due) {
    tell(what, Boolean.toString(got), Boolean.toString(due));
  }

  void fails(String what, Class<? extends RuntimeException> due, Call call) {
    String got = "nothing thrown";
    try {
      call.run();
    } catch (RuntimeException e) {
      got = e.getClass().getName();
    }
    tell(what, got, due.getName());
  }

  /** Ends the test: exit code 1 if there was a fault. */
  void end() {
    System.out.println(checks + " checks, " + faults + " faults");
    if (faults > 0) {
      System.exit(1);
    }
  }

  private void tell(String what, String got, String due) {
    checks++;
    if (!got.equals(due)) {
      faults++;
      System.out.println(label + ": " + what + " answered " + got + ", due is " + due);
    }
  }
}
