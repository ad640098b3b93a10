/** Promises 8 to 13: step, about, many, told, sky, front; the numbers are worked out by hand from the document. */
public final class StepTest {
  private static final int NONE = HeathFire.NONE, UNKNOWN = HeathFire.UNKNOWN, OUTSIDE = HeathFire.OUTSIDE;
  private static final int GRASS = 1, HEATH = 2, WOOD = 3, PEAT = 4, ROAD = 5;
  /** Of a grid of 3 rows and columns: the cell that lies to the north of the middle, the northeast, and so on. */
  private static final int[] ABOUT_MIDDLE = {1, 2, 5, 8, 7, 6, 3, 0};
  private static final Due due = new Due("StepTest");

  public static void main(String[] args) {
    stepCounts();
    aboutManyAndToldRefuse();
    heatInCalm();
    heatByWind();
    heatBySlope();
    heatIsNeverTaken();
    heatIsGivenToAllGrounds();
    fuelByRate();
    littleFuel();
    catching();
    whatCatchesBurnsFromTheNextStepOn();
    rainMakesDamp();
    dryingComesAheadOfRain();
    rainDouses();
    embers();
    embersByStepAndCell();
    embersThatAreNotThrown();
    smokeDrifts();
    smokeIsLostOutside();
    weatherOfTheStep();
    front();
    theGreatestGrid();
    due.end();
  }

  private static void stepCounts() {
    HeathFire x = new HeathFire();
    due.is("step(0)", x.step(0), 0);
    due.is("step(-1)", x.step(-1), OUTSIDE);
    due.is("step(501)", x.step(501), OUTSIDE);
    due.is("step(500)", x.step(500), 500);
    due.is("step(1)", x.step(1), 501);
    due.is("told(2)", x.told(2), 501);
    due.is("step(MAX)", x.step(Integer.MAX_VALUE), OUTSIDE);
    due.is("step(0) again", x.step(0), 501);
  }

  private static void aboutManyAndToldRefuse() {
    HeathFire x = new HeathFire();
    due.is("about(-1, 8)", x.about(-1, 8), UNKNOWN);
    due.is("about(4, 0)", x.about(4, 0), UNKNOWN);
    due.is("about(3, 8)", x.about(3, 8), OUTSIDE);
    due.is("about(3, -1)", x.about(3, -1), OUTSIDE);
    due.is("many(-1)", x.many(-1), OUTSIDE);
    due.is("many(6)", x.many(6), OUTSIDE);
    due.is("many(5)", x.many(5), 0);
    due.is("told(-1)", x.told(-1), OUTSIDE);
    due.is("told(14)", x.told(14), OUTSIDE);
  }

  private static void heatInCalm() {
    HeathFire x = Make.even(3, 3, GRASS, 100, 50);
    x.light(4, 0);
    x.step(1);
    due.cells("calm", x, 0, 1, 1, 1, 1, 2, 1, 1, 1, 1);
    due.cells("calm", x, 1, 100, 100, 100, 100, 88, 100, 100, 100, 100);
    due.cells("calm", x, 2, 47, 47, 47, 47, 50, 47, 47, 47, 47);
    due.cells("calm", x, 3, 12, 12, 12, 12, 0, 12, 12, 12, 12);
    due.cells("calm", x, 4, 0, 0, 0, 0, 9, 0, 0, 0, 0);
    x.step(1);
    due.cells("calm 2", x, 2, 44, 44, 44, 44, 50, 44, 44, 44, 44);
    due.cells("calm 2", x, 3, 18, 18, 18, 18, 0, 18, 18, 18, 18);
    due.is("FUEL of all", x.told(6), 876);
    due.is("HEAT of all", x.told(7), 144);
    due.is("SMOKE of all", x.told(8), 16);
    due.is("EMBERS", x.told(9), 0);
    due.is("FUEL burnt", x.told(10), 24);
    due.is("ALIGHT", x.many(2), 1);
    due.is("of STATE 1", x.many(1), 8);
  }

  private static void heatByWind() {
    int[] strong = {24, 18, 12, 6, 0, 6, 12, 18};
    int[] weak = {15, 13, 12, 10, 9, 10, 12, 13};
    for (int wind = 0; wind < 8; wind++) {
      HeathFire x = Make.even(3, 3, GRASS, 100, 100);
      HeathFire y = Make.even(3, 3, GRASS, 100, 100);
      x.weather(0, wind, 4, 0);
      y.weather(0, wind, 1, 0);
      x.light(4, 0);
      y.light(4, 0);
      x.step(1);
      y.step(1);
      for (int turn = 0; turn < 8; turn++) {
        int n = ABOUT_MIDDLE[(wind + turn) % 8];
        due.is("wind " + wind + " of 4, heat of " + n, x.about(n, 3), strong[turn]);
        due.is("wind " + wind + " of 4, damp of " + n, x.about(n, 2), 100 - strong[turn] / 4);
        due.is("wind " + wind + " of 1, heat of " + n, y.about(n, 3), weak[turn]);
      }
    }
  }

  private static void heatBySlope() {
    int[] height = {50, 16, 13, 17, 0, 4, 9, 3};
    int[] heat = {21, 21, 16, 21, 3, 3, 10, 3};
    HeathFire x = Make.even(3, 3, GRASS, 100, 100);
    for (int d = 0; d < 8; d++) {
      x.cell(ABOUT_MIDDLE[d], GRASS, 100, 100, height[d]);
    }
    x.light(4, 0);
    x.step(1);
    for (int d = 0; d < 8; d++) {
      due.is("slope, heat of " + ABOUT_MIDDLE[d], x.about(ABOUT_MIDDLE[d], 3), heat[d]);
    }
  }

  /** From 1, downhill and against the wind, nothing comes; from 3 does 12 times (8 and 4 and 1 turn's 4) by 8. */
  private static void heatIsNeverTaken() {
    HeathFire x = new HeathFire();
    x.grid(2, 3);
    x.cell(0, PEAT, 50, 100, 10);
    x.cell(1, GRASS, 50, 100, 30);
    x.cell(3, GRASS, 50, 100, 6);
    x.weather(0, 1, 4, 0);
    x.light(1, 0);
    x.light(3, 0);
    x.step(1);
    due.is("heat of 0", x.about(0, 3), 12 * (8 + 4 + 4) / 8);
    due.is("damp of 0", x.about(0, 2), 100 - 24 / 4);
  }

  private static void heatIsGivenToAllGrounds() {
    HeathFire x = new HeathFire();
    x.cell(0, GRASS, 24, 0, 0);
    x.cell(1, ROAD, 0, 7, 0);
    x.cell(2, PEAT, 0, 7, 0);
    x.light(0, 0);
    x.step(1);
    due.cells("grounds", x, 3, 0, 12, 12, 12);
    due.cells("grounds", x, 2, 0, 7, 7, 0);
    due.cells("grounds", x, 0, 2, 0, 0, 0);
    x.step(1);
    due.cells("grounds 2", x, 3, 0, 18, 18, 18);
    x.step(1);
    due.cells("grounds 3", x, 3, 0, 9, 9, 9);
    x.step(1);
    due.cells("grounds 4", x, 3, 0, 4, 4, 4);
  }

  private static void fuelByRate() {
    int[] rate = {0, 12, 8, 6, 2};
    for (int ground = GRASS; ground <= PEAT; ground++) {
      HeathFire x = Make.even(2, 2, ground, 100, 100);
      x.light(0, 0);
      x.step(1);
      due.is("fuel of ground " + ground, x.about(0, 1), 100 - rate[ground]);
      due.is("heat by ground " + ground, x.about(3, 3), rate[ground]);
      x.step(2);
      due.is("burnt of ground " + ground, x.told(10), 3 * rate[ground]);
    }
  }

  private static void littleFuel() {
    HeathFire x = Make.even(2, 2, GRASS, 5, 100);
    x.cell(3, GRASS, 13, 100, 10);
    x.light(0, 0);
    x.light(3, 0);
    x.step(1);
    due.cells("little fuel", x, 0, 3, 1, 1, 2);
    due.cells("little fuel", x, 1, 0, 5, 5, 1);
    due.cells("little fuel", x, 3, 12, 17, 17, 5);
    due.cells("little fuel", x, 4, 4, 0, 0, 9);
    due.is("burnt", x.told(10), 17);
    x.step(1);
    due.cells("little fuel 2", x, 0, 3, 1, 1, 3);
    due.cells("little fuel 2", x, 3, 6 + 1, 8 + 1, 8 + 1, 2);
    due.is("burnt 2", x.told(10), 18);
    due.is("BURNT", x.many(3), 2);
    x.step(1);
    due.is("burnt 3", x.told(10), 18);
    due.cells("ARRIVAL stays", x, 7, 0, NONE, NONE, 0);
  }

  /** A grass fire beside one cell to the east; the wind is strong, so 24 HEAT a step comes, or 33 uphill. */
  private static int arrival(int ground, int damp, int height) {
    HeathFire x = new HeathFire();
    x.cell(0, GRASS, 200, 0, 10);
    x.cell(1, ground, 100, damp, height);
    x.weather(0, 2, 4, 0);
    x.light(0, 0);
    x.step(8);
    return x.about(1, 7);
  }

  private static void catching() {
    due.is("GRASS 10", arrival(GRASS, 10, 10), 0);
    due.is("GRASS 11", arrival(GRASS, 11, 10), 1);
    due.is("HEATH 18", arrival(HEATH, 18, 10), 1);
    due.is("HEATH 19", arrival(HEATH, 19, 10), 2);
    due.is("PEAT 20", arrival(PEAT, 20, 10), 2);
    due.is("PEAT 21", arrival(PEAT, 21, 10), 3);
    due.is("WOOD 31", arrival(WOOD, 31, 16), 2);
    due.is("WOOD 32", arrival(WOOD, 32, 16), 3);
    due.is("WOOD on flat land", arrival(WOOD, 0, 10), NONE);
  }

  private static void whatCatchesBurnsFromTheNextStepOn() {
    HeathFire x = new HeathFire();
    x.grid(2, 3);
    for (int n = 0; n < 3; n++) {
      x.cell(n, GRASS, 36, 0, 10);
    }
    x.weather(0, 2, 4, 0);
    x.light(0, 0);
    x.step(1);
    due.cells("caught", x, 0, 2, 2, 1);
    due.cells("caught", x, 1, 24, 36, 36);
    due.cells("caught", x, 3, 0, 24, 0);
    due.cells("caught", x, 4, 5, 6, 0);
    due.cells("caught", x, 7, 0, 0, NONE);
    x.step(1);
    due.cells("caught 2", x, 0, 2, 2, 2);
    due.cells("caught 2", x, 1, 12, 24, 36);
    due.cells("caught 2", x, 3, 0, 24 + 12, 24);
    due.cells("caught 2", x, 7, 0, 0, 1);
  }

  private static void rainMakesDamp() {
    HeathFire x = new HeathFire();
    x.cell(0, GRASS, 5, 0, 0);
    x.cell(1, WOOD, 5, 95, 0);
    x.cell(2, PEAT, 0, 5, 0);
    x.cell(3, 0, 0, 6, 0);
    x.weather(0, 0, 0, 9);
    x.weather(2, 0, 0, 1);
    x.step(1);
    due.cells("rain", x, 2, 27, 100, 5, 6);
    x.step(1);
    due.cells("rain", x, 2, 54, 100, 5, 6);
    x.step(1);
    due.cells("rain", x, 2, 57, 100, 5, 6);
  }

  private static void dryingComesAheadOfRain() {
    int[] damp = {2, 6, 7, 13, 14, 100};
    int[] left = {3, 3, 4, 10, 11, 97};
    int[] state = {2, 2, 2, 1, 1, 1};
    for (int i = 0; i < damp.length; i++) {
      HeathFire x = new HeathFire();
      x.cell(0, GRASS, 200, 0, 10);
      x.cell(1, GRASS, 100, damp[i], 10);
      x.weather(0, 2, 4, 1);
      x.light(0, 0);
      x.step(1);
      due.is("damp " + damp[i] + " is", x.about(1, 2), left[i]);
      due.is("damp " + damp[i] + " STATE", x.about(1, 0), state[i]);
    }
  }

  private static int stateInRain(int ground, int fuel, int rain, int seed) {
    HeathFire x = new HeathFire();
    x.cell(0, ground, fuel, 0, 10);
    x.seed(seed);
    x.weather(0, 0, 0, rain);
    x.light(0, 0);
    x.step(1);
    return x.about(0, 0);
  }

  /** LOT (k 2) of STEP 0 and cell 0 leaves by 10: SEED 12: 2, 35: 3, 0: 4, 4: 8, 2: 9. */
  private static void rainDouses() {
    due.is("PEAT, 2 below 3", stateInRain(PEAT, 50, 3, 12), 5);
    due.is("PEAT, 3 not below 3", stateInRain(PEAT, 50, 3, 35), 2);
    due.is("PEAT, 3 below 4", stateInRain(PEAT, 50, 4, 35), 5);
    due.is("PEAT, 4 not below 4", stateInRain(PEAT, 50, 4, 0), 2);
    due.is("PEAT, 8 below 9", stateInRain(PEAT, 50, 9, 4), 5);
    due.is("PEAT, 9 not below 9", stateInRain(PEAT, 50, 9, 2), 2);
    due.is("HEATH, 8 below 9", stateInRain(HEATH, 50, 9, 4), 5);
    due.is("HEATH, rain not above BURN", stateInRain(HEATH, 50, 8, 12), 2);
    due.is("GRASS, rain not above BURN", stateInRain(GRASS, 50, 9, 12), 2);
    due.is("PEAT, fuel at its end", stateInRain(PEAT, 2, 9, 4), 3);
    for (int seed = 0; seed < 50; seed++) {
      due.is("PEAT, rain 2 of SEED " + seed, stateInRain(PEAT, 50, 2, seed), 2);
    }
    HeathFire x = new HeathFire();
    x.cell(0, PEAT, 50, 9, 10);
    x.seed(4);
    x.weather(0, 0, 0, 9);
    x.light(0, 0);
    x.step(1);
    due.is("DOUSED, FUEL", x.about(0, 1), 48);
    due.is("DOUSED, DAMP", x.about(0, 2), 9);
    due.is("DOUSED, smoke", x.about(0, 4), 2);
    x.step(1);
    due.is("DOUSED burns no more", x.about(0, 1), 48);
    due.is("DOUSED stays", x.many(5), 1);
    due.is("burnt", x.told(10), 2);
  }

  /** A wood fire in the northwest corner; the heat of the cells to the east of it that are no neighbours. */
  private static void ember(int ground, int columns, int strength, int seed, int far) {
    HeathFire x = new HeathFire();
    x.grid(2, columns);
    x.cell(0, ground, 100, 0, 10);
    x.seed(seed);
    x.weather(0, 2, strength, 0);
    x.light(0, 0);
    x.step(1);
    String name = "ember of ground " + ground + ", strength " + strength + ", SEED " + seed;
    due.is(name + " thrown", x.told(9), far > 0 ? 1 : 0);
    for (int n = 2; n < columns; n++) {
      due.is(name + ", heat of " + n, x.about(n, 3), n == far ? 40 : 0);
    }
  }

  /** The seeds' LOTS were reckoned apart: by 100 they leave 11, 17, 23, or one more, which is not less. */
  private static void embers() {
    ember(WOOD, 16, 2, -2893, 2);
    ember(WOOD, 16, 2, -2020, 3);
    ember(WOOD, 16, 2, -2773, 4);
    ember(WOOD, 16, 2, -1800, 0);
    ember(WOOD, 16, 2, -2725, 0);
    ember(WOOD, 16, 2, -2754, 0);
    ember(WOOD, 16, 3, -2782, 2);
    ember(WOOD, 16, 3, -2867, 3);
    ember(WOOD, 16, 3, -2714, 4);
    ember(WOOD, 16, 3, -2862, 0);
    ember(WOOD, 16, 4, -2894, 2);
    ember(WOOD, 16, 4, -2632, 3);
    ember(WOOD, 16, 4, -2444, 4);
    ember(WOOD, 16, 4, -2999, 0);
    ember(WOOD, 16, 1, 35, 0);
    ember(WOOD, 16, 0, 35, 0);
    ember(PEAT, 16, 2, -2893, 0);
    ember(HEATH, 16, 2, -2893, 0);
  }

  private static void embersByStepAndCell() {
    HeathFire x = new HeathFire();
    x.grid(4, 16);
    x.cell(17, WOOD, 100, 0, 10);
    x.cell(17 + 2 * 17, WOOD, 100, 90, 10);
    x.seed(365);
    x.weather(0, 3, 1, 0);
    x.weather(3, 3, 2, 0);
    x.light(17, 3);
    x.step(4);
    due.is("thrown in step 3", x.told(9), 1);
    due.is("heat where it fell", x.about(17 + 2 * 17, 3), 40);
    due.is("damp where it fell", x.about(17 + 2 * 17, 2), 80);
  }

  private static void embersThatAreNotThrown() {
    ember(WOOD, 4, 2, -2773, 0);
    ember(WOOD, 5, 2, -2773, 4);
    HeathFire x = new HeathFire();
    x.grid(4, 4);
    x.cell(0, WOOD, 100, 0, 10);
    x.seed(-2893);
    x.weather(0, 0, 2, 0);
    x.light(0, 0);
    x.step(1);
    due.is("none to the north of the grid", x.told(9), 0);
    due.is("heat of 8", x.about(8, 3), 0);
  }

  private static void smokeDrifts() {
    HeathFire x = new HeathFire();
    x.grid(2, 4);
    x.cell(0, GRASS, 200, 0, 0);
    x.light(0, 0);
    x.weather(0, 2, 1, 0);
    x.weather(2, 4, 4, 0);
    x.weather(3, 1, 0, 0);
    x.step(1);
    due.cells("smoke", x, 4, 5, 6, 0, 0);
    x.step(1);
    due.cells("smoke 2", x, 4, 7, 3 + 8, 3, 0, 0, 0, 0, 0);
    x.step(1);
    due.cells("smoke 3", x, 4, 10 - 2, 6 - 1, 2, 0, 9, 5, 1, 0);
    due.is("smoke of all", x.told(8), 8 + 5 + 2 + 9 + 5 + 1);
    x.step(1);
    due.cells("smoke 4", x, 4, 20 - 5, 5 - 1, 2, 0, 9 - 2, 5 - 1, 1, 0);
  }

  private static void smokeIsLostOutside() {
    HeathFire x = new HeathFire();
    x.cell(0, GRASS, 12, 0, 0);
    x.light(0, 0);
    x.weather(0, 5, 2, 0);
    x.step(1);
    due.cells("lost", x, 4, 5, 0, 0, 0);
    x.step(1);
    due.cells("lost", x, 4, 3, 0, 0, 0);
    x.step(1);
    due.cells("lost", x, 4, 2, 0, 0, 0);
    x.step(2);
    due.cells("a rest of 1 stays", x, 4, 1, 0, 0, 0);
  }

  private static void weatherOfTheStep() {
    HeathFire x = Make.even(2, 2, GRASS, 50, 0);
    x.weather(1, 0, 0, 2);
    x.weather(3, 0, 0, 0);
    x.step(1);
    due.is("no rain in step 0", x.about(0, 2), 0);
    x.step(2);
    due.is("rain in steps 1 and 2", x.about(0, 2), 12);
    x.step(1);
    due.is("no rain in step 3", x.about(0, 2), 12);
  }

  /** The greatest grid, lit in its four corners: by symmetry all four quarters go alike in calm. */
  private static void theGreatestGrid() {
    HeathFire x = Make.even(16, 16, GRASS, 200, 0);
    x.light(0, 0);
    x.light(15, 0);
    x.light(240, 0);
    x.light(255, 0);
    x.crew(136);
    x.plan(0, 2, 0);
    x.keep(0);
    x.step(1);
    due.is("the last of the front", x.front(11), 254);
    due.is("no more", x.front(12), NONE);
    due.is("lit corners and 12 about them", x.differs(0), 16);
    due.is("18 HEAT is not enough", x.ahead(254, 1), NONE);
    due.is("21 HEAT is", x.ahead(254, 2), 2);
    x.step(19);
    for (int r = 0; r < 7; r++) {
      for (int c = 0; c < 7; c++) {
        due.is("ARRIVAL in the southeast", x.about((15 - r) * 16 + 15 - c, 7), x.about(r * 16 + c, 7));
        due.is("HEAT in the northeast", x.about(r * 16 + 15 - c, 3), x.about(r * 16 + c, 3));
      }
    }
    due.is("step(500)", x.step(500), 520);
    due.is("all BURNT but the CUT one", x.many(3), 255);
    due.is("FUEL burnt", x.told(10), 255 * 200);
    due.is("no front any more", x.front(0), NONE);
  }

  private static void front() {
    HeathFire x = Make.even(3, 4, PEAT, 100, 100);
    x.cell(1, ROAD, 0, 0, 0);
    due.is("no front", x.front(0), NONE);
    x.light(4, 0);
    x.light(5, 0);
    due.is("not yet", x.front(0), NONE);
    x.step(1);
    int[] want = {0, 2, 6, 8, 9, 10, NONE};
    for (int i = 0; i < want.length; i++) {
      due.is("front(" + i + ")", x.front(i), want[i]);
    }
    due.is("front(-1)", x.front(-1), NONE);
    due.is("front(MAX)", x.front(Integer.MAX_VALUE), NONE);
  }
}
