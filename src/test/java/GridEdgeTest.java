/** Text 1 of the document, the grid, and promises 1 to 7: each edge that it names has a test of its own. */
public final class GridEdgeTest {
  private static final int NONE = HeathFire.NONE, UNKNOWN = HeathFire.UNKNOWN, OUTSIDE = HeathFire.OUTSIDE;
  private static final int STATE = HeathFire.STATE, FULL = HeathFire.FULL;
  private static final int WATER = 0, GRASS = 1, WOOD = 3, PEAT = 4, ROAD = 5;
  private static final Due due = new Due("GridEdgeTest");

  public static void main(String[] args) {
    aNewObjectIsAGridOf2By2();
    aNewObjectWorksWithoutGrid();
    everySizeFrom2To16();
    cellsAreNumberedByRows();
    noOldCellShinesThrough();
    gridForgetsWeatherLightsCrewsAndStrips();
    gridIsRefusedFromTheFirstSTEPOn();
    gridIsFreeAgainAtSTEP0();
    cellTakesEachEdge();
    cellRefusesBesideEachEdge();
    onlyWATERAndROADHaveNoFUEL();
    theLeastFUELIsSTATE1();
    noFUELIsBAREForGood();
    cellIsToldAnew();
    cellGoesUnderACREW();
    cellIsRefusedFromTheFirstSTEPOn();
    weatherTakesEachEdge();
    weatherRefusesBesideEachEdge();
    weatherHoldsUntilTheNextOne();
    ofOneStepTheOneToldLast();
    sixteenEntries();
    weatherAnyTime();
    seedIsAnyInt();
    lightTakesEachEdge();
    lightInTheLatestStep();
    twentyLights();
    lightAnyTime();
    clearAtSTEP0();
    clearLetsAllCountsBeginAnew();
    clearLetsCrewsBeginAnew();
    clearLeavesWhatWasTold();
    due.end();
  }

  private static void aNewObjectIsAGridOf2By2() {
    HeathFire x = new HeathFire();
    HeathFire y = new HeathFire();
    due.is("grid(2, 2)", y.grid(2, 2), 4);
    Look.alike(due, "a new object and grid(2, 2)", x, y);
    due.is("SEED", x.seed(1), 0);
    due.is("BALANCED", x.balanced(true), 0);
    due.is("nothing is to be lit", x.light(0, 0), 1);
    due.is("STEPS", x.clear(), 0);
  }

  private static void aNewObjectWorksWithoutGrid() {
    HeathFire x = new HeathFire();
    due.is("cell(3, ..)", x.cell(3, GRASS, 12, 0, 0), 1);
    due.is("light(3, 0)", x.light(3, 0), 1);
    due.is("crew(3)", x.crew(3), 0);
    due.is("step(1)", x.step(1), 1);
    due.cells("new", x, 0, 0, 0, 0, 3);
    due.cells("new", x, 3, 12, 12, 12, 0);
  }

  private static void everySizeFrom2To16() {
    for (int rows = 0; rows <= 18; rows++) {
      HeathFire x = new HeathFire();
      for (int columns = 0; columns <= 18; columns++) {
        boolean taken = rows >= 2 && rows <= 16 && columns >= 2 && columns <= 16;
        String name = "grid(" + rows + ", " + columns + ")";
        due.is(name, x.grid(rows, columns), taken ? rows * columns : OUTSIDE);
        if (taken) {
          due.is(name + " rows", x.told(0), rows);
          due.is(name + " columns", x.told(1), columns);
          due.is(name + " WATER", x.many(0), rows * columns);
          due.is(name + " last cell", x.about(rows * columns - 1, 5), WATER);
          due.is(name + " no cell", x.about(rows * columns, 5), UNKNOWN);
          due.is(name + " last row", x.strip(0, 1), rows - 1);
        }
      }
    }
  }

  /** A crew goes one row to the south: by as many numbers as there are columns. */
  private static void cellsAreNumberedByRows() {
    HeathFire x = Make.even(3, 5, ROAD, 0, 0);
    x.crew(4);
    x.plan(0, 1, 14);
    x.step(1);
    due.is("row 1, column 4", x.ofCrew(0, 0), 9);
    x.step(1);
    due.is("row 2, column 4", x.ofCrew(0, 0), 14);
  }

  private static void noOldCellShinesThrough() {
    HeathFire x = Make.even(4, 4, GRASS, 50, 60);
    x.grid(2, 2);
    x.grid(4, 4);
    HeathFire y = new HeathFire();
    y.grid(4, 4);
    Look.alike(due, "a greater grid behind a smaller one", x, y);
    HeathFire z = Make.even(4, 4, GRASS, 50, 60);
    z.light(5, 0);
    z.step(3);
    z.clear();
    z.grid(4, 4);
    z.step(2);
    y.step(2);
    due.is("HEAT", z.told(7), 0);
    due.is("SMOKE", z.told(8), 0);
    due.is("STATE 0", z.many(0), 16);
    due.is("ARRIVAL", z.about(5, 7), NONE);
  }

  private static void gridForgetsWeatherLightsCrewsAndStrips() {
    HeathFire x = Make.even(3, 3, GRASS, 50, 0);
    x.weather(0, 1, 2, 3);
    x.light(4, 0);
    x.crew(0);
    x.strips(3);
    x.seed(77);
    x.balanced(true);
    x.keep(0);
    due.is("grid(3, 3)", x.grid(3, 3), 9);
    due.is("no WEATHER", x.told(3), 0);
    due.is("wind", x.sky(0, 0), 0);
    due.is("strength", x.sky(0, 1), 0);
    due.is("RAIN", x.sky(0, 2), 0);
    due.is("no CREWS", x.told(4), 0);
    due.is("no CREW 0", x.ofCrew(0, 0), UNKNOWN);
    due.strips("one STRIP", x, 0, 2, 0);
    due.is("what was kept is of another GRID", x.back(0), STATE);
    due.is("SEED stays", x.seed(77), 77);
    due.is("BALANCED stays", x.balanced(true), 1);
    for (int n = 0; n < 9; n++) {
      x.cell(n, PEAT, 50, 100, 0);
    }
    x.step(1);
    due.is("nothing is to be lit", x.many(2), 0);
    due.is("1 light", x.light(4, 1), 1);
    due.is("1 entry", x.weather(0, 0, 0, 0), 1);
  }

  private static void gridIsRefusedFromTheFirstSTEPOn() {
    HeathFire x = new HeathFire();
    due.is("step(0)", x.step(0), 0);
    due.is("step(0) is no STEP", x.grid(2, 3), 6);
    x.step(1);
    due.is("behind STEP 0", x.grid(2, 2), STATE);
    x.step(500);
    due.is("behind many", x.grid(2, 2), STATE);
    due.is("as it was", x.told(1), 3);
  }

  private static void gridIsFreeAgainAtSTEP0() {
    HeathFire x = new HeathFire();
    x.keep(0);
    x.step(1);
    x.clear();
    due.is("clear() lets all begin anew", x.grid(2, 2), 4);
    x.keep(0);
    x.step(1);
    x.back(0);
    due.is("behind back() to STEP 0", x.grid(2, 5), 10);
    x.step(1);
    x.keep(1);
    x.clear();
    x.back(1);
    due.is("behind back() to STEP 1", x.grid(2, 5), STATE);
  }

  private static void cellTakesEachEdge() {
    int[][] taken = {{WATER, 0, 0, 0}, {ROAD, 0, 0, 0}, {WATER, 0, 100, 50}, {ROAD, 0, 100, 50}, {GRASS, 0, 0, 0},
        {PEAT, 200, 100, 50}, {WOOD, 1, 1, 1}, {2, 199, 99, 49}};
    for (int[] t : taken) {
      HeathFire x = new HeathFire();
      String name = "cell(3, " + t[0] + ", " + t[1] + ", " + t[2] + ", " + t[3] + ")";
      due.is(name, x.cell(3, t[0], t[1], t[2], t[3]), 1);
      due.is(name + " GROUND", x.about(3, 5), t[0]);
      due.is(name + " FUEL", x.about(3, 1), t[1]);
      due.is(name + " DAMP", x.about(3, 2), t[2]);
      due.is(name + " HEIGHT", x.about(3, 6), t[3]);
      due.is(name + " STATE", x.about(3, 0), t[1] > 0 ? 1 : 0);
      due.is(name + " HEAT", x.about(3, 3), 0);
      due.is(name + " SMOKE", x.about(3, 4), 0);
      due.is(name + " ARRIVAL", x.about(3, 7), NONE);
    }
    HeathFire y = new HeathFire();
    y.grid(16, 16);
    due.is("the first cell", y.cell(0, GRASS, 1, 0, 0), 1);
    due.is("the last cell", y.cell(255, GRASS, 2, 0, 0), 1);
    due.is("no cell", y.cell(256, GRASS, 2, 0, 0), UNKNOWN);
    due.is("no cell below 0", y.cell(-1, GRASS, 2, 0, 0), UNKNOWN);
    due.is("FUEL of all", y.told(6), 3);
  }

  private static void cellRefusesBesideEachEdge() {
    int[][] refused = {{-1, 0, 0, 0}, {6, 0, 0, 0}, {GRASS, -1, 0, 0}, {GRASS, 201, 0, 0}, {GRASS, 0, -1, 0},
        {GRASS, 0, 101, 0}, {GRASS, 0, 0, -1}, {GRASS, 0, 0, 51}, {WATER, 0, 101, 0}, {ROAD, 0, 0, 51}, {WATER, -1, 0, 0}};
    for (int[] r : refused) {
      HeathFire x = new HeathFire();
      x.cell(3, PEAT, 7, 8, 9);
      String name = "cell(3, " + r[0] + ", " + r[1] + ", " + r[2] + ", " + r[3] + ")";
      due.is(name, x.cell(3, r[0], r[1], r[2], r[3]), OUTSIDE);
      due.is(name + " GROUND stays", x.about(3, 5), PEAT);
      due.is(name + " FUEL stays", x.about(3, 1), 7);
      due.is(name + " DAMP stays", x.about(3, 2), 8);
      due.is(name + " HEIGHT stays", x.about(3, 6), 9);
    }
  }

  private static void onlyWATERAndROADHaveNoFUEL() {
    for (int ground = WATER; ground <= ROAD; ground++) {
      HeathFire x = new HeathFire();
      int want = ground == WATER || ground == ROAD ? OUTSIDE : 1;
      due.is("FUEL 1 of GROUND " + ground, x.cell(0, ground, 1, 0, 0), want);
      due.is("FUEL 200 of GROUND " + ground, x.cell(0, ground, 200, 0, 0), want);
      due.is("FUEL 0 of GROUND " + ground, x.cell(0, ground, 0, 0, 0), 1);
    }
  }

  private static void theLeastFUELIsSTATE1() {
    for (int ground = GRASS; ground <= PEAT; ground++) {
      HeathFire x = new HeathFire();
      x.cell(0, ground, 1, 0, 0);
      due.is("STATE 1 of GROUND " + ground, x.about(0, 0), 1);
      x.light(0, 0);
      x.step(1);
      due.is("BURNT at once of GROUND " + ground, x.about(0, 0), 3);
      due.is("burnt of GROUND " + ground, x.told(10), 1);
      due.is("HEAT by GROUND " + ground, x.about(1, 3), 1);
    }
  }

  private static void noFUELIsBAREForGood() {
    HeathFire x = Make.even(3, 3, GRASS, 60, 0);
    x.cell(4, GRASS, 0, 0, 10);
    for (int n = 0; n < 9; n++) {
      x.light(n, 0);
    }
    x.step(1);
    due.is("BARE is not lit", x.about(4, 0), 0);
    due.is("HEAT of 8 about it", x.about(4, 3), 8 * 12);
    x.step(4);
    due.is("BARE does not catch", x.about(4, 0), 0);
    due.is("ARRIVAL", x.about(4, 7), NONE);
    due.is("all else is BURNT", x.many(3), 8);
  }

  private static void cellIsToldAnew() {
    HeathFire x = new HeathFire();
    x.cell(1, WOOD, 90, 80, 40);
    x.cell(1, WATER, 0, 0, 0);
    Look.alike(due, "told as WATER again", x, new HeathFire());
    HeathFire y = new HeathFire();
    y.cell(1, GRASS, 0, 0, 0);
    y.cell(1, GRASS, 5, 0, 0);
    due.is("from BARE to STATE 1", y.about(1, 0), 1);
    y.cell(1, GRASS, 0, 0, 0);
    due.is("and back", y.about(1, 0), 0);
  }

  private static void cellGoesUnderACREW() {
    HeathFire x = Make.even(2, 2, GRASS, 10, 0);
    x.crew(0);
    x.plan(0, 0, 5);
    due.is("cell under a CREW", x.cell(0, WATER, 0, 0, 0), 1);
    due.crew("it stays", x, 0, 0, 10, 0, 1, 0, 0, 0, 0);
  }

  private static void cellIsRefusedFromTheFirstSTEPOn() {
    HeathFire x = new HeathFire();
    x.step(0);
    due.is("step(0) is no STEP", x.cell(0, GRASS, 10, 0, 0), 1);
    x.keep(0);
    x.step(1);
    due.is("behind STEP 0", x.cell(0, GRASS, 11, 0, 0), STATE);
    due.is("FUEL stays", x.about(0, 1), 10);
    x.back(0);
    due.is("behind back() to STEP 0", x.cell(0, GRASS, 12, 0, 0), 1);
    x.step(1);
    x.clear();
    due.is("FUEL that was told last", x.about(0, 1), 12);
    due.is("behind clear()", x.cell(0, GRASS, 13, 0, 0), 1);
  }

  private static void weatherTakesEachEdge() {
    for (int wind = 0; wind < 8; wind++) {
      HeathFire x = new HeathFire();
      due.is("wind " + wind, x.weather(0, wind, 0, 0), 1);
      due.is("sky of wind " + wind, x.sky(0, 0), wind);
    }
    for (int strength = 0; strength <= 4; strength++) {
      HeathFire x = new HeathFire();
      due.is("strength " + strength, x.weather(0, 0, strength, 0), 1);
      due.is("sky of strength " + strength, x.sky(0, 1), strength);
    }
    for (int rain = 0; rain <= 9; rain++) {
      HeathFire x = new HeathFire();
      due.is("RAIN " + rain, x.weather(0, 0, 0, rain), 1);
      due.is("sky of RAIN " + rain, x.sky(0, 2), rain);
    }
    HeathFire x = new HeathFire();
    due.is("step 10000", x.weather(10000, 7, 4, 9), 1);
    due.is("all at their most", x.sky(10000, 0) * 100 + x.sky(10000, 1) * 10 + x.sky(10000, 2), 749);
    due.is("not yet in 9999", x.sky(9999, 0), 0);
  }

  private static void weatherRefusesBesideEachEdge() {
    int[][] refused = {{-1, 0, 0, 0}, {10001, 0, 0, 0}, {0, -1, 0, 0}, {0, 8, 0, 0}, {0, 0, -1, 0}, {0, 0, 5, 0},
        {0, 0, 0, -1}, {0, 0, 0, 10}};
    for (int[] r : refused) {
      HeathFire x = new HeathFire();
      x.weather(0, 1, 2, 3);
      due.is("weather(" + r[0] + ", " + r[1] + ", " + r[2] + ", " + r[3] + ")", x.weather(r[0], r[1], r[2], r[3]), OUTSIDE);
      due.is("entries", x.told(3), 1);
      due.is("the sky stays", x.sky(10000, 0) * 100 + x.sky(10000, 1) * 10 + x.sky(10000, 2), 123);
    }
  }

  private static void weatherHoldsUntilTheNextOne() {
    HeathFire x = new HeathFire();
    x.weather(7, 3, 3, 3);
    x.weather(3, 1, 1, 1);
    x.weather(8, 4, 4, 4);
    int[] wind = {0, 0, 0, 1, 1, 1, 1, 3, 4, 4};
    for (int step = 0; step < wind.length; step++) {
      for (int what = 0; what < 3; what++) {
        due.is("sky(" + step + ", " + what + ")", x.sky(step, what), wind[step]);
      }
    }
    due.is("the last one holds for ever", x.sky(Integer.MAX_VALUE, 2), 4);
  }

  private static void ofOneStepTheOneToldLast() {
    HeathFire x = new HeathFire();
    x.weather(0, 1, 1, 1);
    x.weather(5, 2, 2, 2);
    x.weather(0, 3, 3, 3);
    x.weather(5, 4, 4, 4);
    due.is("entries, all four", x.told(3), 4);
    due.is("of step 0", x.sky(0, 0), 3);
    due.is("until step 5", x.sky(4, 0), 3);
    due.is("of step 5", x.sky(5, 0), 4);
    x.weather(0, 7, 0, 0);
    due.is("a later one of step 0 does not reach step 5", x.sky(5, 0), 4);
    due.is("but step 4", x.sky(4, 0), 7);
  }

  private static void sixteenEntries() {
    HeathFire x = new HeathFire();
    for (int i = 1; i <= 16; i++) {
      due.is("entry " + i, x.weather(i, i % 8, i % 5, i % 10), i);
    }
    due.is("entry 17", x.weather(17, 1, 1, 1), FULL);
    due.is("entry 17 of a step that has one", x.weather(16, 1, 1, 1), FULL);
    for (int i = 1; i <= 16; i++) {
      due.is("wind of " + i, x.sky(i, 0), i % 8);
      due.is("strength of " + i, x.sky(i, 1), i % 5);
      due.is("RAIN of " + i, x.sky(i, 2), i % 10);
    }
    due.is("step 17 is as step 16", x.sky(17, 2), 6);
    x.clear();
    due.is("still FULL behind clear()", x.weather(17, 1, 1, 1), FULL);
    x.grid(2, 2);
    due.is("grid() makes room", x.weather(17, 1, 1, 1), 1);
  }

  private static void weatherAnyTime() {
    HeathFire x = Make.even(2, 2, GRASS, 10, 0);
    x.step(2);
    due.is("behind a STEP", x.weather(2, 0, 0, 1), 1);
    x.step(1);
    due.is("it rains in the STEP that comes", x.about(0, 2), 3);
    due.is("of a step that is over", x.weather(0, 0, 0, 9), 2);
    x.step(1);
    due.is("does not hold now", x.about(0, 2), 6);
    x.clear();
    x.step(1);
    due.is("but behind clear()", x.about(0, 2), 27);
  }

  private static void seedIsAnyInt() {
    HeathFire x = new HeathFire();
    int[] seeds = {Integer.MAX_VALUE, Integer.MIN_VALUE, -1, 0, NONE, UNKNOWN, 1};
    int was = 0;
    for (int s : seeds) {
      due.is("seed(" + s + ")", x.seed(s), was);
      was = s;
    }
    x.step(1);
    due.is("any time", x.seed(5), 1);
    x.keep(0);
    x.seed(6);
    x.back(0);
    due.is("back() leaves it", x.seed(7), 6);
    x.clear();
    due.is("clear() leaves it", x.seed(8), 7);
    x.grid(3, 3);
    due.is("grid() leaves it", x.seed(9), 8);
  }

  private static void lightTakesEachEdge() {
    HeathFire x = new HeathFire();
    x.grid(16, 16);
    due.is("cell 0, step 0", x.light(0, 0), 1);
    due.is("cell 255, step 10000", x.light(255, 10000), 2);
    due.is("cell -1", x.light(-1, 0), UNKNOWN);
    due.is("cell 256", x.light(256, 0), UNKNOWN);
    due.is("step -1", x.light(0, -1), OUTSIDE);
    due.is("step 10001", x.light(0, 10001), OUTSIDE);
    due.is("WATER may be told", x.light(7, 3), 3);
  }

  private static void lightInTheLatestStep() {
    HeathFire x = Make.even(2, 2, PEAT, 50, 100);
    x.light(1, 10000);
    for (int i = 1; i <= 20; i++) {
      due.is("step(500)", x.step(500), 500 * i);
    }
    due.is("not in 9999", x.about(1, 0), 1);
    x.step(1);
    due.is("in 10000", x.about(1, 0), 2);
    due.is("ARRIVAL", x.about(1, 7), 10000);
  }

  private static void twentyLights() {
    HeathFire x = Make.even(5, 5, PEAT, 100, 100);
    for (int i = 1; i <= 20; i++) {
      due.is("light " + i, x.light(i, 0), i);
    }
    due.is("light 21", x.light(21, 0), FULL);
    due.is("light 21 of a cell that is told", x.light(20, 0), FULL);
    x.step(1);
    due.is("20 are lit", x.many(2), 20);
    due.is("the 20th", x.about(20, 0), 2);
    due.is("the 21st not", x.about(21, 0), 1);
    due.is("FULL though they are lit", x.light(21, 5), FULL);
    x.clear();
    due.is("FULL behind clear()", x.light(21, 5), FULL);
    x.grid(5, 5);
    due.is("grid() makes room", x.light(21, 5), 1);
  }

  private static void lightAnyTime() {
    HeathFire x = Make.even(2, 2, PEAT, 100, 100);
    x.step(3);
    due.is("for the STEP that comes", x.light(0, 3), 1);
    due.is("for one that is over", x.light(1, 2), 2);
    x.step(1);
    due.cells("only the first", x, 7, 3, NONE, NONE, NONE);
    x.clear();
    x.step(4);
    due.cells("both behind clear()", x, 7, 3, 2, NONE, NONE);
  }

  private static void clearAtSTEP0() {
    HeathFire x = new HeathFire();
    due.is("clear() of a new one", x.clear(), 0);
    x.cell(0, GRASS, 10, 0, 0);
    x.crew(0);
    x.strips(2);
    due.is("clear() ahead of STEP 0", x.clear(), 0);
    due.is("no CREWS", x.told(4), 0);
    due.strips("one STRIP", x, 0, 1, 0);
    x.step(500);
    x.step(500);
    due.is("clear() behind 1000", x.clear(), 1000);
    due.is("clear() again", x.clear(), 0);
  }

  /** As StripTest.joinsTheFirst; and with SEED 3 the wood at 4 throws an EMBER 2 cells off in STEP 0, over a seam. */
  private static void clearLetsAllCountsBeginAnew() {
    HeathFire x = Make.even(16, 2, GRASS, 12, 100);
    x.cell(4, WOOD, 6, 100, 10);
    x.seed(3);
    x.weather(0, 4, 2, 0);
    x.weather(1, 0, 0, 0);
    for (int i = 0; i < 5; i++) {
      x.light(i, 0);
      x.light(8 + i, 1);
      x.light(16 + i, 1);
      x.light(24 + i, 1);
    }
    x.strips(4);
    x.balanced(true);
    x.step(2);
    int[] ever = {1, 4 * 12 + 6 + 15 * 12, 1 + 3 * 4, 1, 1};
    for (int i = 0; i < ever.length; i++) {
      due.is("told(" + (9 + i) + ")", x.told(9 + i), ever[i]);
    }
    x.keep(0);
    due.is("clear()", x.clear(), 2);
    for (int what = 7; what <= 13; what++) {
      due.is("told(" + what + ") behind clear()", x.told(what), 0);
    }
    due.is("FUEL of all", x.told(6), 31 * 12 + 6);
    x.back(0);
    for (int i = 0; i < ever.length; i++) {
      due.is("told(" + (9 + i) + ") behind back()", x.told(9 + i), ever[i]);
    }
  }

  /** All that a crew can have is gone with it: a plan, HELD UP, CUT, DOUSED, WATER, LOST. */
  private static void clearLetsCrewsBeginAnew() {
    HeathFire x = Make.even(2, 4, PEAT, 100, 100);
    x.cell(3, WATER, 0, 0, 0);
    x.crew(2);
    x.plan(0, 2, 0);
    x.plan(0, 1, 3);
    x.plan(0, 3, 0);
    x.plan(0, 4, 0);
    x.plan(0, 0, 50);
    x.crew(4);
    x.light(1, 2);
    x.light(4, 5);
    x.step(6);
    due.crew("ahead of clear()", x, 0, 2, 40, 0, 1, 0, 1, 1, 1);
    due.crew("LOST", x, 1, 4, 10, NONE, 0, 1, 0, 0, 0);
    x.clear();
    due.is("no CREW", x.ofCrew(0, 0), UNKNOWN);
    due.is("no plan", x.plan(0, 2, 0), UNKNOWN);
    due.is("the first again", x.crew(6), 0);
    due.is("the second again", x.crew(7), 1);
    due.crew("anew", x, 0, 6, 10, NONE, 0, 0, 0, 0, 0);
    due.crew("anew, not LOST", x, 1, 7, 10, NONE, 0, 0, 0, 0, 0);
    x.plan(0, 0, 2);
    x.step(1);
    due.is("a REST begins anew", x.ofCrew(0, 3), 1);
  }

  private static void clearLeavesWhatWasTold() {
    HeathFire x = Make.even(2, 2, PEAT, 100, 100);
    HeathFire y = Make.even(2, 2, PEAT, 100, 100);
    for (HeathFire z : new HeathFire[] {x, y}) {
      z.weather(1, 2, 3, 4);
      z.seed(5);
      z.light(0, 1);
      z.balanced(true);
    }
    x.keep(1);
    y.keep(1);
    x.step(3);
    due.is("clear()", x.clear(), 3);
    Look.alike(due, "behind clear()", x, y);
    x.step(3);
    y.step(3);
    Look.alike(due, "and on", x, y);
    due.is("kept stays", x.back(1), 0);
  }
}
