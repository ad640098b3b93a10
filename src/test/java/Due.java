/** Counts the calls whose answer is not the one that is due, and prints each. */
final class Due {
  private final String test;
  private int asked = 0;
  private int wrong = 0;

  Due(String test) {
    this.test = test;
  }

  void is(String call, int got, int want) {
    asked++;
    if (got != want) {
      wrong++;
      System.out.println(test + ": " + call + " answered " + got + ", due is " + want);
    }
  }

  /** What cells 0, 1, 2 .. answer to about(n, what). */
  void cells(String name, HeathFire x, int what, int... want) {
    for (int n = 0; n < want.length; n++) {
      is(name + " about(" + n + ", " + what + ")", x.about(n, what), want[n]);
    }
  }

  /** What a crew answers to ofCrew(crew, 0), ofCrew(crew, 1) .. */
  void crew(String name, HeathFire x, int crew, int... want) {
    for (int what = 0; what < want.length; what++) {
      is(name + " ofCrew(" + crew + ", " + what + ")", x.ofCrew(crew, what), want[what]);
    }
  }

  /** The strips, three numbers each: first row, last row, work. */
  void strips(String name, HeathFire x, int... want) {
    is(name + " told(5)", x.told(5), want.length / 3);
    for (int i = 0; i < want.length; i++) {
      is(name + " strip(" + i / 3 + ", " + i % 3 + ")", x.strip(i / 3, i % 3), want[i]);
    }
  }

  void end() {
    System.out.println(test + ": " + asked + " answers, " + wrong + " not as due");
    if (wrong > 0) {
      System.exit(1);
    }
  }
}
