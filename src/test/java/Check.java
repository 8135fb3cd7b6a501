/** Counts what is not as due; a test ends with finish(). */
final class Check {
  private final String test;
  private int asked = 0;
  private int wrong = 0;

  Check(String test) {
    this.test = test;
  }

  void same(String what, Object got, Object due) {
    asked++;
    if (!due.equals(got)) {
      wrong++;
      System.out.println(test + ": " + what + " answered " + got + ", due is " + due);
    }
  }

  void is(String what, long got, long due) {
    same(what, got, due);
  }

  void isDouble(String what, double got, double due) {
    same(what, got, due);
  }

  /** The call must throw exactly this exception and leave the arcade as it was. */
  void refused(PennyArcade arcade, Class<? extends RuntimeException> due, String what, Runnable call) {
    long before = arcade.digest();
    int skill = skillOf(arcade);
    same(what + " throws", thrownBy(call), due.getName());
    is("digest() behind " + what, arcade.digest(), before);
    is("the skill behind " + what, skillOf(arcade), skill);
  }

  /** The digest leaves the skill out, and only setSkill tells it. */
  private static int skillOf(PennyArcade arcade) {
    int skill = arcade.setSkill(0);
    arcade.setSkill(skill);
    return skill;
  }

  void noIndex(PennyArcade arcade, String what, Runnable call) {
    refused(arcade, IndexOutOfBoundsException.class, what, call);
  }

  void noArgument(PennyArcade arcade, String what, Runnable call) {
    refused(arcade, IllegalArgumentException.class, what, call);
  }

  void noState(PennyArcade arcade, String what, Runnable call) {
    refused(arcade, IllegalStateException.class, what, call);
  }

  private static String thrownBy(Runnable call) {
    try {
      call.run();
      return "nothing";
    } catch (RuntimeException e) {
      return nameOf(e);
    }
  }

  /** An exception that the class did not throw itself, but the machine or the library in it, is never due. */
  static String nameOf(RuntimeException e) {
    StackTraceElement[] trace = e.getStackTrace();
    boolean own = trace.length > 0 && trace[0].getClassName().split("\\$")[0].equals("PennyArcade");
    return own ? e.getClass().getName() : e.getClass().getName() + " from outside the class";
  }

  void finish() {
    System.out.println(test + ": " + asked + " answers asked, " + wrong + " not as due");
    if (wrong != 0) {
      System.exit(1);
    }
  }
}
