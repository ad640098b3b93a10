/** Promises 18 to 20: strips, balanced, strip; and PASSED, STRIPS split and joined of told (11). */
public final class StripTest {
  private static final int UNKNOWN = HeathFire.UNKNOWN, OUTSIDE = HeathFire.OUTSIDE;
  private static final int GRASS = 1, WOOD = 3, ROAD = 5;
  private static final Due due = new Due("StripTest");

  public static void main(String[] args) {
    stripsPartTheRows();
    stripsRefuse();
    stripRefuses();
    balancedAnswers();
    workIsCounted();
    heatIsPassed();
    emberIsPassed();
    smokeIsPassed();
    splitsAboveTwiceTheMean();
    splitsTheFirstOfSeveral();
    splitsOddRows();
    doesNotSplitOneRow();
    doesNotSplitEight();
    joinsBelowHalfTheMean();
    joinsTheFirst();
    halfOfTheMeanIsCut();
    offDoesNothing();
    allIsAlikeWhateverTheStrips();
    due.end();
  }

  /** Wet grass: what is lit burns, and nothing else catches. */
  private static HeathFire wet(int rows, int strips) {
    HeathFire x = Make.even(rows, 2, GRASS, 200, 100);
    x.balanced(true);
    x.strips(strips);
    return x;
  }

  private static void lightFromTo(HeathFire x, int from, int to) {
    for (int n = from; n <= to; n++) {
      x.light(n, 0);
    }
  }

  private static void stripsPartTheRows() {
    HeathFire x = new HeathFire();
    x.grid(16, 2);
    due.strips("at first", x, 0, 15, 0);
    due.is("strips(3)", x.strips(3), 6);
    due.strips("3", x, 0, 5, 0, 6, 10, 0, 11, 15, 0);
    due.is("strips(8)", x.strips(8), 2);
    due.is("last of 8", x.strip(7, 1), 15);
    due.is("strips(5)", x.strips(5), 4);
    due.strips("5", x, 0, 3, 0, 4, 6, 0, 7, 9, 0, 10, 12, 0, 13, 15, 0);
    x.step(2);
    due.is("strips any time", x.strips(6), 3);
    due.strips("6", x, 0, 2, 0, 3, 5, 0, 6, 8, 0, 9, 11, 0, 12, 13, 0, 14, 15, 0);
    due.is("strips(1)", x.strips(1), 16);
    due.strips("1", x, 0, 15, 0);
  }

  private static void stripsRefuse() {
    HeathFire x = new HeathFire();
    x.grid(5, 2);
    due.is("strips(2)", x.strips(2), 3);
    int[] wrong = {0, -1, 6, 9, Integer.MIN_VALUE, Integer.MAX_VALUE};
    for (int n : wrong) {
      due.is("strips(" + n + ")", x.strips(n), OUTSIDE);
    }
    due.strips("as they were", x, 0, 2, 0, 3, 4, 0);
    due.is("strips(5)", x.strips(5), 1);
    x.grid(16, 2);
    due.is("strips(9) of 16 rows", x.strips(9), OUTSIDE);
  }

  private static void stripRefuses() {
    HeathFire x = new HeathFire();
    due.is("strip(-1, 0)", x.strip(-1, 0), UNKNOWN);
    due.is("strip(1, 3)", x.strip(1, 3), UNKNOWN);
    due.is("strip(0, -1)", x.strip(0, -1), OUTSIDE);
    due.is("strip(0, 3)", x.strip(0, 3), OUTSIDE);
    due.is("strip(0, 1)", x.strip(0, 1), 1);
  }

  private static void balancedAnswers() {
    HeathFire x = new HeathFire();
    due.is("off", x.balanced(false), 0);
    due.is("off still", x.balanced(true), 0);
    due.is("on", x.balanced(true), 1);
    due.is("on still", x.balanced(false), 1);
    due.is("off again", x.balanced(false), 0);
  }

  private static void workIsCounted() {
    HeathFire x = Make.even(3, 4, GRASS, 12, 0);
    for (int n = 1; n < 12; n += 4) {
      x.cell(n, ROAD, 0, 0, 0);
    }
    x.strips(2);
    x.weather(0, 4, 4, 0);
    x.light(0, 0);
    due.strips("without a STEP", x, 0, 1, 0, 2, 2, 0);
    x.step(1);
    due.is("one more is ALIGHT behind the step", x.about(4, 0), 2);
    due.strips("the lit one counts, what caught does not", x, 0, 1, 12, 2, 2, 4);
    x.step(1);
    due.strips("what was BURNT does not", x, 0, 1, 12, 2, 2, 4);
    x.step(1);
    due.strips("in the other strip", x, 0, 1, 8, 2, 2, 8);
    x.strips(2);
    due.strips("new ones", x, 0, 1, 0, 2, 2, 0);
    x.step(1);
    x.clear();
    due.strips("clear", x, 0, 2, 0);
  }

  private static int passed(int strips, int strength) {
    HeathFire x = Make.even(3, 3, GRASS, 100, 100);
    x.strips(strips);
    x.weather(0, 0, strength, 0);
    x.light(4, 0);
    x.step(1);
    return x.told(11);
  }

  private static void heatIsPassed() {
    due.is("calm, 1 strip", passed(1, 0), 0);
    due.is("calm, 2 strips", passed(2, 0), 3);
    due.is("calm, 3 strips", passed(3, 0), 6);
    due.is("north, 1 strip", passed(1, 4), 0);
    due.is("north, 2 strips, none to the south", passed(2, 4), 2);
    due.is("north, 3 strips, smoke too", passed(3, 4), 6);
  }

  /** LOTS of SEED -2893 in STEP 0: the wood at 0 throws 2 cells off. */
  private static void emberIsPassed() {
    int[] strips = {1, 8, 4, 5};
    int[] due4 = {0, 1, 0, 0};
    for (int i = 0; i < strips.length; i++) {
      HeathFire x = new HeathFire();
      x.grid(16, 2);
      x.cell(0, WOOD, 100, 0, 0);
      x.seed(-2893);
      x.weather(0, 4, 2, 0);
      x.strips(strips[i]);
      x.light(0, 0);
      x.step(1);
      due.is("thrown", x.told(9), 1);
      due.is("heat of 4", x.about(4, 3), 40);
      due.is("passed with " + strips[i], x.told(11), due4[i]);
    }
  }

  private static void smokeIsPassed() {
    HeathFire x = new HeathFire();
    x.grid(4, 2);
    x.cell(0, GRASS, 12, 0, 0);
    x.strips(4);
    x.weather(0, 4, 1, 0);
    x.light(0, 0);
    x.step(1);
    due.cells("1", x, 4, 5, 0, 6);
    due.is("heat to two, smoke to one", x.told(11), 3);
    x.step(1);
    due.cells("2", x, 4, 3, 0, 5, 0, 3);
    due.is("smoke from two", x.told(11), 5);
    x.step(1);
    due.cells("3", x, 4, 2, 0, 4, 0, 4, 0, 1);
    due.is("smoke from three", x.told(11), 8);
    x.step(1);
    due.cells("4", x, 4, 1, 0, 3, 0, 4, 0, 3);
    due.is("1 has no half, and goes nowhere", x.told(11), 11);
    x.step(1);
    due.is("what goes outside is not passed", x.told(11), 13);
  }

  private static void splitsAboveTwiceTheMean() {
    HeathFire x = wet(8, 4);
    lightFromTo(x, 4, 7);
    x.step(1);
    due.strips("20 above twice 8", x, 0, 1, 4, 2, 2, 0, 3, 3, 0, 4, 5, 4, 6, 7, 4);
    due.is("split", x.told(12), 1);
    due.is("joined", x.told(13), 0);
    x.step(1);
    due.strips("one row each", x, 0, 1, 4, 2, 2, 10, 3, 3, 10, 4, 5, 4, 6, 7, 4);
    due.is("split still", x.told(12), 1);

    HeathFire y = wet(8, 4);
    lightFromTo(y, 12, 13);
    y.step(1);
    due.strips("12 is twice 6", y, 0, 1, 4, 2, 3, 4, 4, 5, 4, 6, 7, 12);
    HeathFire z = wet(8, 4);
    lightFromTo(z, 12, 14);
    z.step(1);
    due.strips("16 above twice 7", z, 0, 1, 4, 2, 3, 4, 4, 5, 4, 6, 6, 0, 7, 7, 0);
  }

  private static void splitsTheFirstOfSeveral() {
    HeathFire x = wet(12, 6);
    lightFromTo(x, 4, 7);
    lightFromTo(x, 12, 15);
    x.step(1);
    due.strips("20 twice", x, 0, 1, 4, 2, 2, 0, 3, 3, 0, 4, 5, 4, 6, 7, 20, 8, 9, 4, 10, 11, 4);
    x.step(1);
    due.strips("then the other", x, 0, 1, 4, 2, 2, 10, 3, 3, 10, 4, 5, 4, 6, 6, 0, 7, 7, 0, 8, 9, 4, 10, 11, 4);
    due.is("split", x.told(12), 2);
  }

  private static void splitsOddRows() {
    HeathFire x = wet(9, 3);
    lightFromTo(x, 12, 17);
    lightFromTo(x, 6, 6);
    x.step(1);
    due.strips("30 is not above twice 15", x, 0, 2, 6, 3, 5, 10, 6, 8, 30);
    HeathFire y = wet(12, 4);
    lightFromTo(y, 12, 17);
    y.step(1);
    due.strips("30 above twice 12", y, 0, 2, 6, 3, 5, 6, 6, 6, 0, 7, 8, 0, 9, 11, 6);
  }

  /** Strips of 2, 1, 1 .. rows; the last one has 10, above twice 4, but one row. */
  private static void doesNotSplitOneRow() {
    HeathFire x = wet(5, 4);
    lightFromTo(x, 8, 9);
    x.step(1);
    due.strips("one row", x, 0, 1, 4, 2, 2, 2, 3, 3, 2, 4, 4, 10);
    due.is("split", x.told(12), 0);
  }

  private static void doesNotSplitEight() {
    HeathFire x = wet(16, 8);
    lightFromTo(x, 0, 3);
    x.step(1);
    due.is("20 above twice 6, but 8 strips", x.told(5), 8);
    due.is("its work stays", x.strip(0, 2), 20);
    due.is("split", x.told(12), 0);
  }

  /** Strips of 2, 2, 1, 1, 1, 1, 1 rows, all ALIGHT but the last two rows: the mean is 10, and 20 not above twice that. */
  private static void joinsBelowHalfTheMean() {
    HeathFire x = wet(9, 7);
    lightFromTo(x, 0, 13);
    x.step(1);
    due.strips("4 below 5", x, 0, 1, 20, 2, 3, 20, 4, 4, 10, 5, 5, 10, 6, 6, 10, 7, 8, 0);
    due.is("joined", x.told(13), 1);
    due.is("split", x.told(12), 0);
    x.step(1);
    due.is("work of the joined", x.strip(5, 2), 4);

    HeathFire y = wet(9, 7);
    lightFromTo(y, 0, 3);
    lightFromTo(y, 4, 7);
    lightFromTo(y, 12, 17);
    y.step(1);
    due.strips("in the middle", y, 0, 1, 20, 2, 3, 20, 4, 5, 0, 6, 6, 10, 7, 7, 10, 8, 8, 10);
    due.is("joined", y.told(13), 1);
  }

  /** The first of four strips is split and burnt out; then, with the others at work, its halves are joined. */
  private static void joinsTheFirst() {
    HeathFire x = Make.even(16, 2, GRASS, 12, 100);
    x.balanced(true);
    x.strips(4);
    for (int i = 0; i < 5; i++) {
      x.light(i, 0);
      x.light(8 + i, 1);
      x.light(16 + i, 1);
      x.light(24 + i, 1);
    }
    x.step(1);
    due.strips("28 above twice 13", x, 0, 1, 0, 2, 3, 0, 4, 7, 8, 8, 11, 8, 12, 15, 8);
    x.step(1);
    due.strips("8 below 18 by 2", x, 0, 3, 0, 4, 7, 28, 8, 11, 28, 12, 15, 28);
    due.is("split", x.told(12), 1);
    due.is("joined", x.told(13), 1);
    x.keep(0);
    x.clear();
    due.is("split, behind clear()", x.told(12), 0);
    due.is("joined, behind clear()", x.told(13), 0);
    x.back(0);
    due.is("split, behind back()", x.told(12), 1);
    due.is("joined, behind back()", x.told(13), 1);
  }

  /** Eight strips, so that none is split: of 2, 2, 1 .. rows. */
  private static void halfOfTheMeanIsCut() {
    HeathFire x = wet(10, 8);
    lightFromTo(x, 0, 12);
    x.step(1);
    due.is("4 is not below 9 by 2", x.told(13), 0);
    due.is("strips", x.told(5), 8);
    HeathFire y = wet(10, 8);
    lightFromTo(y, 0, 14);
    y.step(1);
    due.is("4 is below 10 by 2", y.told(13), 1);
    due.strips("joined", y, 0, 1, 20, 2, 3, 20, 4, 4, 10, 5, 5, 10, 6, 6, 10, 7, 7, 6, 8, 9, 0);
  }

  private static void offDoesNothing() {
    HeathFire x = wet(8, 4);
    x.balanced(false);
    lightFromTo(x, 4, 7);
    x.step(3);
    due.strips("off", x, 0, 1, 4, 2, 3, 20, 4, 5, 4, 6, 7, 4);
    x.balanced(true);
    due.is("on, but no STEP yet", x.told(5), 4);
    x.step(1);
    due.is("on", x.told(5), 5);
    x.clear();
    due.is("split ever, behind clear()", x.told(12), 0);
  }

  private static HeathFire mixed(int strips, boolean balanced) {
    HeathFire x = new HeathFire();
    x.grid(16, 5);
    for (int n = 0; n < 80; n++) {
      int ground = n % 7 == 3 ? WOOD : 1 + n % 2;
      x.cell(n, ground, 60 + n, n % 3, n * 5 % 7);
    }
    x.seed(41);
    x.weather(0, 3, 4, 0);
    x.weather(12, 0, 3, 2);
    x.light(0, 0);
    x.light(36, 2);
    x.crew(79);
    x.plan(0, 1, 40);
    x.plan(0, 3, 0);
    x.strips(strips);
    x.balanced(balanced);
    return x;
  }

  private static void allIsAlikeWhateverTheStrips() {
    for (int steps = 1; steps <= 30; steps++) {
      alikeBehind(steps, 0, 1, 2, 3);
      alikeBehind(steps, 4, 7);
    }
    HeathFire one = mixed(1, false);
    one.step(30);
    due.is("the fire went on", one.many(2) + one.many(3) > 20 ? 1 : 0, 1);
    due.is("with one strip nothing is passed", one.told(11), 0);
  }

  /** New objects each time, as one bears but 512 calls. */
  private static void alikeBehind(int steps, int... whats) {
    HeathFire one = mixed(1, false);
    one.step(steps);
    HeathFire[] others = {mixed(8, false), mixed(5, true), mixed(3, true)};
    for (HeathFire other : others) {
      other.step(steps);
      due.is(steps + " STEPS, told(9)", other.told(9), one.told(9));
      due.is(steps + " STEPS, told(10)", other.told(10), one.told(10));
    }
    for (int n = 0; n < 80; n++) {
      for (int what : whats) {
        int want = one.about(n, what);
        for (HeathFire other : others) {
          due.is(steps + " STEPS, about(" + n + ", " + what + ")", other.about(n, what), want);
        }
      }
    }
  }
}
