/** Promises 1 to 7: a new object, grid, cell, weather, seed, light, clear; and sky (12), which shows the weather. */
public final class GridTest {
  private static final int NONE = HeathFire.NONE, UNKNOWN = HeathFire.UNKNOWN, OUTSIDE = HeathFire.OUTSIDE;
  private static final int STATE = HeathFire.STATE, FULL = HeathFire.FULL, NO = HeathFire.NO;
  private static final Due due = new Due("GridTest");

  public static void main(String[] args) {
    aNewObject();
    gridTakesItsSizes();
    gridBeginsAllAnewButSeedAndBalanced();
    gridRefusedChangesNothing();
    cellTakesItsNumbers();
    cellRefuses();
    cellIsNotToldBehindASTEP();
    weatherIsTold();
    weatherRefuses();
    seedAnswersWhichItWas();
    lightIsTold();
    clearBeginsAnew();
    clearLeavesWhatWasTold();
    due.end();
  }

  private static void aNewObject() {
    HeathFire x = new HeathFire();
    int[] told = {2, 2, 0, 0, 0, 1, 0, 0, 0, 0, 0, 0, 0, 0};
    for (int what = 0; what < told.length; what++) {
      due.is("new told(" + what + ")", x.told(what), told[what]);
    }
    for (int what = 0; what < 7; what++) {
      due.cells("new", x, what, 0, 0, 0, 0);
    }
    due.cells("new", x, 7, NONE, NONE, NONE, NONE);
    due.is("new about(4, 0)", x.about(4, 0), UNKNOWN);
    due.is("new many(0)", x.many(0), 4);
    due.strips("new", x, 0, 1, 0);
    due.is("new sky(0, 0)", x.sky(0, 0), 0);
    due.is("new ofCrew(0, 0)", x.ofCrew(0, 0), UNKNOWN);
    due.is("new crew on WATER", x.crew(3), NO);
    due.is("new seed", x.seed(9), 0);
    due.is("new balanced", x.balanced(true), 0);
    due.is("new back", x.back(0), UNKNOWN);
    due.is("new step(0)", x.step(0), 0);
  }

  private static void gridTakesItsSizes() {
    HeathFire x = new HeathFire();
    due.is("grid(2, 2)", x.grid(2, 2), 4);
    due.is("grid(16, 16)", x.grid(16, 16), 256);
    due.is("last cell", x.about(255, 5), 0);
    due.is("behind the last cell", x.about(256, 5), UNKNOWN);
    due.is("grid(16, 2)", x.grid(16, 2), 32);
    due.is("grid(2, 16)", x.grid(2, 16), 32);
    due.is("rows", x.told(0), 2);
    due.is("columns", x.told(1), 16);
    int[] wrong = {1, 17, 0, -1, Integer.MIN_VALUE, Integer.MAX_VALUE};
    for (int w : wrong) {
      due.is("grid(" + w + ", 4)", x.grid(w, 4), OUTSIDE);
      due.is("grid(4, " + w + ")", x.grid(4, w), OUTSIDE);
    }
    due.is("many(0)", x.many(0), 32);
  }

  private static void gridBeginsAllAnewButSeedAndBalanced() {
    HeathFire x = Make.even(4, 4, 1, 50, 7);
    x.weather(0, 2, 4, 3);
    x.light(5, 0);
    x.crew(5);
    x.seed(12);
    x.balanced(true);
    x.strips(4);
    due.is("grid anew", x.grid(4, 4), 16);
    due.is("entries", x.told(3), 0);
    due.is("crews", x.told(4), 0);
    due.is("fuel", x.told(6), 0);
    due.strips("grid anew", x, 0, 3, 0);
    due.cells("grid anew", x, 5, 0, 0, 0);
    due.cells("grid anew", x, 2, 0, 0, 0);
    due.cells("grid anew", x, 6, 0, 0, 0);
    due.is("seed stays", x.seed(0), 12);
    due.is("balanced stays", x.balanced(false), 1);
    x.cell(5, 1, 50, 0, 0);
    x.step(1);
    due.is("nothing is lit", x.about(5, 0), 1);
    due.is("grid behind a STEP", x.grid(4, 4), STATE);
    due.is("grid(1, 4) behind a STEP", x.grid(1, 4), OUTSIDE);
    x.clear();
    due.is("grid behind clear()", x.grid(3, 4), 12);
    due.is("lights count anew", x.light(0, 0), 1);
  }

  private static void gridRefusedChangesNothing() {
    HeathFire x = Make.even(3, 3, 2, 40, 5);
    x.weather(0, 1, 1, 1);
    x.crew(4);
    x.strips(3);
    x.keep(0);
    due.is("grid(3, 17)", x.grid(3, 17), OUTSIDE);
    x.step(1);
    due.is("grid(3, 3)", x.grid(3, 3), STATE);
    due.is("columns", x.told(1), 3);
    due.is("entries", x.told(3), 1);
    due.is("crews", x.told(4), 1);
    due.is("strips", x.told(5), 3);
    due.is("fuel", x.told(6), 360);
    due.is("what was kept is still good", x.back(0), 0);
  }

  private static void cellTakesItsNumbers() {
    HeathFire x = new HeathFire();
    due.is("cell WATER", x.cell(0, 0, 0, 100, 50), 1);
    due.is("cell ROAD", x.cell(1, 5, 0, 0, 0), 1);
    due.is("cell WOOD", x.cell(2, 3, 200, 33, 7), 1);
    due.is("cell PEAT without FUEL", x.cell(3, 4, 0, 1, 2), 1);
    due.cells("cell", x, 0, 0, 0, 1, 0);
    due.cells("cell", x, 1, 0, 0, 200, 0);
    due.cells("cell", x, 2, 100, 0, 33, 1);
    due.cells("cell", x, 3, 0, 0, 0, 0);
    due.cells("cell", x, 4, 0, 0, 0, 0);
    due.cells("cell", x, 5, 0, 5, 3, 4);
    due.cells("cell", x, 6, 50, 0, 7, 2);
    due.cells("cell", x, 7, NONE, NONE, NONE, NONE);
    due.is("cell again", x.cell(2, 1, 1, 0, 0), 1);
    due.is("cell again FUEL", x.about(2, 1), 1);
    due.is("fuel of all", x.told(6), 1);
  }

  private static void cellRefuses() {
    HeathFire x = new HeathFire();
    x.cell(0, 1, 10, 20, 30);
    due.is("no cell -1", x.cell(-1, 9, 0, 0, 0), UNKNOWN);
    due.is("no cell 4", x.cell(4, 9, 0, 0, 0), UNKNOWN);
    int[][] wrong = {{-1, 0, 0, 0}, {6, 0, 0, 0}, {1, -1, 0, 0}, {1, 201, 0, 0}, {1, 5, -1, 0}, {1, 5, 101, 0},
        {1, 5, 0, -1}, {1, 5, 0, 51}, {0, 1, 0, 0}, {5, 1, 0, 0}};
    for (int[] w : wrong) {
      due.is("cell(0, " + w[0] + ", " + w[1] + ", " + w[2] + ", " + w[3] + ")",
          x.cell(0, w[0], w[1], w[2], w[3]), OUTSIDE);
    }
    due.is("GROUND is as it was", x.about(0, 5), 1);
    due.is("FUEL is as it was", x.about(0, 1), 10);
    due.is("DAMP is as it was", x.about(0, 2), 20);
    due.is("HEIGHT is as it was", x.about(0, 6), 30);
  }

  private static void cellIsNotToldBehindASTEP() {
    HeathFire x = Make.even(2, 2, 1, 10, 0);
    x.step(1);
    due.is("cell behind a STEP", x.cell(0, 2, 20, 0, 0), STATE);
    due.is("cell 4 behind a STEP", x.cell(4, 2, 20, 0, 0), UNKNOWN);
    due.is("cell OUTSIDE behind a STEP", x.cell(0, 6, 0, 0, 0), OUTSIDE);
    due.is("GROUND stays", x.about(0, 5), 1);
    x.clear();
    due.is("cell behind clear()", x.cell(0, 2, 20, 0, 0), 1);
    due.is("GROUND is new", x.about(0, 5), 2);
  }

  private static void weatherIsTold() {
    HeathFire x = new HeathFire();
    due.is("sky without", x.sky(10000, 1), 0);
    due.is("weather 5", x.weather(5, 3, 4, 9), 1);
    due.is("weather 2", x.weather(2, 7, 1, 2), 2);
    due.is("weather 5 again", x.weather(5, 6, 2, 1), 3);
    due.is("weather 10000", x.weather(10000, 1, 3, 4), 4);
    due.is("entries", x.told(3), 4);
    sky(x, 0, 0, 0, 0);
    sky(x, 1, 0, 0, 0);
    sky(x, 2, 7, 1, 2);
    sky(x, 4, 7, 1, 2);
    sky(x, 5, 6, 2, 1);
    sky(x, 9999, 6, 2, 1);
    sky(x, 10000, 1, 3, 4);
    sky(x, Integer.MAX_VALUE, 1, 3, 4);
    due.is("weather 0 last", x.weather(0, 4, 4, 4), 5);
    sky(x, 1, 4, 4, 4);
    sky(x, 2, 7, 1, 2);
    due.is("sky(-1, 0)", x.sky(-1, 0), OUTSIDE);
    due.is("sky(0, -1)", x.sky(0, -1), OUTSIDE);
    due.is("sky(0, 3)", x.sky(0, 3), OUTSIDE);
    x.step(3);
    due.is("weather any time", x.weather(3, 0, 0, 0), 6);
  }

  private static void sky(HeathFire x, int step, int wind, int strength, int rain) {
    due.is("sky(" + step + ", 0)", x.sky(step, 0), wind);
    due.is("sky(" + step + ", 1)", x.sky(step, 1), strength);
    due.is("sky(" + step + ", 2)", x.sky(step, 2), rain);
  }

  private static void weatherRefuses() {
    HeathFire x = new HeathFire();
    int[][] wrong = {{-1, 0, 0, 0}, {10001, 0, 0, 0}, {0, -1, 0, 0}, {0, 8, 0, 0}, {0, 0, -1, 0}, {0, 0, 5, 0},
        {0, 0, 0, -1}, {0, 0, 0, 10}};
    for (int i = 0; i < 16; i++) {
      for (int[] w : wrong) {
        due.is("weather wrong", x.weather(w[0], w[1], w[2], w[3]), OUTSIDE);
      }
      due.is("weather " + i, x.weather(0, 7, 4, 9), i + 1);
    }
    due.is("weather 17th", x.weather(0, 0, 0, 0), FULL);
    due.is("weather 17th, wrong", x.weather(0, 8, 0, 0), OUTSIDE);
    due.is("entries", x.told(3), 16);
    sky(x, 0, 7, 4, 9);
  }

  private static void seedAnswersWhichItWas() {
    HeathFire x = new HeathFire();
    due.is("seed(-6)", x.seed(-6), 0);
    due.is("seed(MIN)", x.seed(Integer.MIN_VALUE), -6);
    x.step(1);
    due.is("seed any time", x.seed(3), Integer.MIN_VALUE);
    x.clear();
    due.is("seed stays at clear()", x.seed(0), 3);
  }

  private static void lightIsTold() {
    HeathFire x = Make.even(2, 3, 4, 50, 100);
    x.cell(1, 4, 0, 0, 0);
    x.cell(2, 5, 0, 0, 0);
    due.is("light(-1, 0)", x.light(-1, -1), UNKNOWN);
    due.is("light(6, 0)", x.light(6, 0), UNKNOWN);
    due.is("light(0, -1)", x.light(0, -1), OUTSIDE);
    due.is("light(0, 10001)", x.light(0, 10001), OUTSIDE);
    due.is("light(0, 1)", x.light(0, 1), 1);
    due.is("light(1, 1)", x.light(1, 1), 2);
    due.is("light(2, 1)", x.light(2, 1), 3);
    due.is("light(5, 10000)", x.light(5, 10000), 4);
    due.is("light(0, 1) again", x.light(0, 1), 5);
    x.step(1);
    due.is("not yet", x.about(0, 0), 1);
    due.is("light any time", x.light(3, 1), 6);
    due.is("light too late", x.light(4, 0), 7);
    x.step(1);
    due.cells("lit", x, 0, 2, 0, 0, 2, 1, 1);
    due.cells("lit", x, 7, 1, NONE, NONE, 1, NONE, NONE);
    for (int i = 8; i <= 20; i++) {
      due.is("light " + i, x.light(4, 9), i);
    }
    due.is("light 21", x.light(4, 9), FULL);
    due.is("light 21 of no cell", x.light(6, 9), UNKNOWN);
    due.is("light 21 in no step", x.light(4, -1), OUTSIDE);
    x.clear();
    x.step(1);
    due.is("what was too late comes again", x.about(4, 0), 2);
  }

  private static void clearBeginsAnew() {
    HeathFire x = Make.even(3, 3, 1, 60, 40);
    x.weather(0, 2, 3, 0);
    x.light(4, 0);
    x.strips(3);
    x.crew(0);
    x.step(4);
    due.is("clear()", x.clear(), 4);
    due.is("clear() again", x.clear(), 0);
    due.is("STEPS", x.told(2), 0);
    due.is("CREWS", x.told(4), 0);
    due.strips("clear", x, 0, 2, 0);
    due.is("FUEL", x.told(6), 540);
    for (int what = 7; what < 14; what++) {
      due.is("told(" + what + ")", x.told(what), 0);
    }
    due.cells("clear", x, 0, 1, 1, 1, 1, 1, 1, 1, 1, 1);
    due.cells("clear", x, 2, 40, 40, 40, 40, 40, 40, 40, 40, 40);
    due.is("ARRIVAL", x.about(4, 7), NONE);
    due.is("the next crew is the first", x.crew(1), 0);
    due.crew("clear", x, 0, 1, 10, NONE, 0, 0, 0, 0, 0);
  }

  private static void clearLeavesWhatWasTold() {
    HeathFire x = Make.even(3, 3, 1, 60, 40);
    x.weather(0, 2, 3, 1);
    x.seed(5);
    x.light(4, 0);
    x.balanced(true);
    x.keep(1);
    x.step(2);
    x.clear();
    due.is("entries", x.told(3), 1);
    due.is("sky", x.sky(0, 1), 3);
    due.is("height", x.about(8, 6), 10);
    due.is("balanced", x.balanced(true), 1);
    due.is("seed", x.seed(5), 5);
    due.is("kept", x.differs(1), 0);
    x.step(1);
    due.is("lit again", x.about(4, 7), 0);
    due.is("light goes on counting", x.light(0, 0), 2);
  }
}
