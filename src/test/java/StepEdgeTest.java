/** Text 2 of the document, a step, and promises 8 to 13: each edge that it names has a test of its own. */
public final class StepEdgeTest {
  private static final int NONE = HeathFire.NONE, UNKNOWN = HeathFire.UNKNOWN, OUTSIDE = HeathFire.OUTSIDE;
  private static final int GRASS = 1, HEATH = 2, WOOD = 3, PEAT = 4, ROAD = 5;
  private static final int[] RATE = {0, 12, 8, 6, 2};
  /** By wind: what it adds to the row and to the column of a cell. */
  private static final int[] DOWN = {-1, -1, 0, 1, 1, 1, 0, -1};
  private static final int[] RIGHT = {0, 1, 1, 1, 0, -1, -1, -1};
  private static final Due due = new Due("StepEdgeTest");

  public static void main(String[] args) {
    step0To500();
    theLongestRun();
    litWithSTATE1Alone();
    litTwice();
    burnAtTheEndOfFUEL();
    whatCatchesDoesNotBurnYet();
    heatGoesRoundNoEdge();
    heatOf0IsNotGiven();
    windAgainstItTakesNothing();
    slopeEndsAt6();
    heatOfGreatestWindAndSlope();
    emberFromStrength2On();
    emberByLOT0();
    emberFliesAllWays();
    emberUpToTheEdge();
    emberBehindTheEdge();
    emberAddsToHeat();
    twoEmbersOnOneCell();
    emberOfTheLastFUEL();
    noEmberOfADousedCell();
    lotsWrapAround();
    halfOfHEATIsCut();
    dampNotBelow0();
    dampNotAbove100();
    catchesAtCATCHAndDAMP();
    rainNotAboveBURN();
    rainAndTheLastFUEL();
    noRainDousesNothing();
    otherSTATESStay();
    quarterOfSMOKEIsCut();
    halfOfSMOKEIsCut();
    smokeFliesAllWays();
    smokeAddsUp();
    arrivalIsTheFirst();
    whatAboutTakes();
    manyOfEachSTATE();
    toldOfEach();
    skyOfAnyStep();
    frontByNumbers();
    frontGoesRoundNoEdge();
    due.end();
  }

  private static void step0To500() {
    HeathFire x = new HeathFire();
    int[] n = {0, 500, -1, 501, 1, 499, 0};
    int[] want = {0, 500, OUTSIDE, OUTSIDE, 501, 1000, 1000};
    for (int i = 0; i < n.length; i++) {
      due.is("step(" + n[i] + ")", x.step(n[i]), want[i]);
    }
    due.is("STEPS done", x.told(2), 1000);
  }

  /** An object bears 512 calls. */
  private static void theLongestRun() {
    HeathFire x = new HeathFire();
    x.cell(0, PEAT, 200, 0, 0);
    x.weather(10000, 2, 1, 0);
    x.light(0, 10000);
    for (int i = 1; i <= 500; i++) {
      due.is("step(500)", x.step(500), 500 * i);
    }
    due.is("STEPS done", x.told(2), 250000);
    due.is("burnt", x.told(10), 200);
    due.is("ARRIVAL", x.about(0, 7), 10000);
    due.is("clear", x.clear(), 250000);
  }

  private static void litWithSTATE1Alone() {
    HeathFire x = Make.states();
    int[] arrival = {NONE, 2, 1, 0, NONE, 1};
    int[] state = {0, 2, 2, 3, 4, 5};
    for (int n : Make.CELL_OF_STATE) {
      x.light(n, 2);
    }
    x.light(1, 2);
    x.step(1);
    for (int was = 0; was < 6; was++) {
      int n = Make.CELL_OF_STATE[was];
      due.is("STATE of what had STATE " + was, x.about(n, 0), state[was]);
      due.is("ARRIVAL of what had STATE " + was, x.about(n, 7), arrival[was]);
    }
    due.is("a ROAD", x.about(1, 0), 0);
  }

  private static void litTwice() {
    HeathFire x = Make.even(2, 2, PEAT, 100, 100);
    x.light(0, 0);
    x.light(0, 0);
    x.light(0, 1);
    x.step(2);
    due.is("FUEL is less by BURN, once a STEP", x.about(0, 1), 96);
    due.is("ARRIVAL", x.about(0, 7), 0);
  }

  private static void burnAtTheEndOfFUEL() {
    for (int ground = GRASS; ground <= PEAT; ground++) {
      for (int more = -1; more <= 1; more++) {
        int fuel = RATE[ground] + more;
        int burn = Math.min(fuel, RATE[ground]);
        HeathFire x = new HeathFire();
        x.cell(0, ground, fuel, 0, 0);
        x.light(0, 0);
        x.step(1);
        String name = "GROUND " + ground + " with FUEL " + fuel;
        due.is(name + ", left", x.about(0, 1), fuel - burn);
        due.is(name + ", STATE", x.about(0, 0), more > 0 ? 2 : 3);
        due.is(name + ", HEAT given", x.about(3, 3), burn);
        due.is(name + ", burnt", x.told(10), burn);
        x.step(1);
        due.is(name + ", at its end", x.about(0, 0), 3);
        due.is(name + ", HEAT then", x.about(3, 3), burn / 2 + fuel - burn);
        due.is(name + ", all burnt", x.told(10), fuel);
      }
    }
  }

  private static void whatCatchesDoesNotBurnYet() {
    HeathFire x = Make.even(2, 2, GRASS, 100, 0);
    for (int n = 1; n < 4; n++) {
      x.light(n, 0);
    }
    x.step(1);
    due.is("36 HEAT", x.about(0, 3), 36);
    due.is("it is ALIGHT", x.about(0, 0), 2);
    due.is("ARRIVAL is this STEP", x.about(0, 7), 0);
    due.is("but its FUEL is whole", x.about(0, 1), 100);
    due.is("and no SMOKE", x.about(0, 4), 0);
    due.is("HEAT of 3 by two", x.about(3, 3), 24);
    x.step(1);
    due.is("now it burns", x.about(0, 1), 88);
    due.is("HEAT of 3 by three", x.about(3, 3), 36 + 12);
  }

  private static void heatGoesRoundNoEdge() {
    for (int lit = 0; lit < 12; lit++) {
      HeathFire x = Make.even(3, 4, PEAT, 100, 100);
      x.light(lit, 0);
      x.step(1);
      for (int n = 0; n < 12; n++) {
        boolean about = n != lit && Math.abs(n / 4 - lit / 4) <= 1 && Math.abs(n % 4 - lit % 4) <= 1;
        due.is(lit + " is lit, HEAT of " + n, x.about(n, 3), about ? 2 : 0);
      }
    }
  }

  /** PEAT burns 2: times (8 less 5) by 8 is cut to 0, times (8 less 4) by 8 is 1. Only what is given is PASSED. */
  private static void heatOf0IsNotGiven() {
    HeathFire x = new HeathFire();
    x.cell(0, PEAT, 100, 0, 10);
    x.cell(1, ROAD, 0, 0, 10);
    x.cell(2, ROAD, 0, 0, 5);
    x.cell(3, ROAD, 0, 0, 6);
    x.strips(2);
    x.light(0, 0);
    x.step(1);
    due.cells("cut to 0", x, 3, 0, 2, 0, 1);
    due.is("PASSED", x.told(11), 1);
  }

  private static void windAgainstItTakesNothing() {
    HeathFire x = Make.even(3, 3, GRASS, 100, 100);
    x.cell(0, GRASS, 100, 100, 4);
    x.cell(1, GRASS, 100, 100, 9);
    x.cell(2, GRASS, 100, 100, 11);
    x.weather(0, 4, 4, 0);
    x.strips(3);
    x.light(4, 0);
    x.step(1);
    due.is("8 less 4 less 6", x.about(0, 3), 0);
    due.is("8 less 8 less 1", x.about(1, 3), 0);
    due.is("8 less 4 and 1", x.about(2, 3), 12 * 5 / 8);
    due.is("DAMP of 0", x.about(0, 2), 100);
    due.is("DAMP of 1", x.about(1, 2), 100);
    due.is("PASSED: 2, three to the south, SMOKE", x.told(11), 5);
    HeathFire y = Make.even(2, 2, GRASS, 100, 100);
    y.weather(0, 0, 4, 0);
    y.light(0, 0);
    y.strips(2);
    y.step(1);
    due.is("8 less 8 is 0", y.about(2, 3), 0);
    due.is("PASSED: only 3", y.told(11), 1);
  }

  private static void slopeEndsAt6() {
    int[] height = {25, 26, 27, 50, 15, 14, 13, 0};
    int[] by = {5, 6, 6, 6, -5, -6, -6, -6};
    for (int i = 0; i < height.length; i++) {
      HeathFire x = new HeathFire();
      x.cell(0, GRASS, 100, 0, 20);
      x.cell(1, ROAD, 0, 0, height[i]);
      x.light(0, 0);
      x.step(1);
      due.is("from 20 to " + height[i], x.about(1, 3), 12 * (8 + by[i]) / 8);
    }
  }

  private static void heatOfGreatestWindAndSlope() {
    HeathFire x = new HeathFire();
    x.cell(0, GRASS, 200, 0, 0);
    x.cell(1, ROAD, 0, 0, 50);
    x.weather(0, 2, 4, 0);
    x.light(0, 0);
    x.step(1);
    due.is("12 times (8 and 8 and 6) by 8", x.about(1, 3), 33);
  }

  private static HeathFire wood(int rows, int columns, int n, int wind, int strength, int seed) {
    HeathFire x = new HeathFire();
    x.grid(rows, columns);
    x.cell(n, WOOD, 100, 0, 0);
    x.seed(seed);
    x.weather(0, wind, strength, 0);
    return x;
  }

  /** SEED 24: LOT (k 0) of cell 40 in STEP 0 leaves 2 by 100, LOT (k 1) 0 by 3. */
  private static void emberFromStrength2On() {
    int[] thrown = {0, 0, 1, 1, 1};
    for (int strength = 0; strength <= 4; strength++) {
      HeathFire x = wood(9, 9, 40, 2, strength, 24);
      x.light(40, 0);
      x.step(1);
      due.is("strength " + strength + ", EMBERS", x.told(9), thrown[strength]);
      due.is("strength " + strength + ", HEAT 2 off", x.about(42, 3), 40 * thrown[strength]);
    }
    for (int ground : new int[] {GRASS, HEATH, PEAT}) {
      HeathFire x = wood(9, 9, 40, 2, 4, 24);
      x.cell(40, ground, 100, 0, 0);
      x.light(40, 0);
      x.step(1);
      due.is("GROUND " + ground + " throws none", x.told(9), 0);
    }
    HeathFire x = wood(9, 9, 40, 2, 4, 24);
    x.step(1);
    due.is("not ALIGHT, none", x.told(9), 0);
  }

  /** LOT (k 0) of cell 0 in STEP 0 leaves by 100: 11, 17, 23, which is less than 6 times the strength, or 12, 18, 24. */
  private static void emberByLOT0() {
    int[] less = {49, 118, 333};
    int[] far = {2, 3, 4};
    int[] like = {30, 206, 88};
    for (int i = 0; i < 3; i++) {
      HeathFire x = wood(2, 16, 0, 2, 2 + i, less[i]);
      x.light(0, 0);
      x.step(1);
      due.is("less, strength " + (2 + i), x.told(9), 1);
      due.is("HEAT " + far[i] + " off", x.about(far[i], 3), 40);
      HeathFire y = wood(2, 16, 0, 2, 2 + i, like[i]);
      y.light(0, 0);
      y.step(1);
      due.is("not less, strength " + (2 + i), y.told(9), 0);
    }
  }

  /** SEED 24, 43, 4: 2, 3, 4 cells off cell 40, the middle of a grid of 9 by 9. */
  private static void emberFliesAllWays() {
    int[] seed = {24, 43, 4};
    for (int wind = 0; wind < 8; wind++) {
      for (int i = 0; i < 3; i++) {
        HeathFire x = wood(9, 9, 40, wind, 2, seed[i]);
        x.light(40, 0);
        x.step(1);
        int to = 40 + (2 + i) * (9 * DOWN[wind] + RIGHT[wind]);
        due.is("wind " + wind + ", HEAT of " + to, x.about(to, 3), 40);
        due.is("wind " + wind + ", EMBERS", x.told(9), 1);
        due.is("wind " + wind + ", HEAT of all", x.told(7), 9 + 7 + 7 + 6 + 6 + 4 + 4 + 3 + 40);
      }
    }
  }

  /** SEED 11: 3 off cell 24, the middle of a grid of 7 by 7; SEED 3: from 2 it falls on cell 0. */
  private static void emberUpToTheEdge() {
    for (int wind = 0; wind < 8; wind++) {
      HeathFire x = wood(7, 7, 24, wind, 2, 11);
      x.light(24, 0);
      x.step(1);
      due.is("wind " + wind + ", at the edge", x.about(24 + 3 * (7 * DOWN[wind] + RIGHT[wind]), 3), 40);
      due.is("wind " + wind + ", EMBERS", x.told(9), 1);
    }
    HeathFire x = wood(2, 8, 2, 6, 2, 3);
    x.light(2, 0);
    x.step(1);
    due.is("on cell 0", x.about(0, 3), 40);
    due.is("EMBERS", x.told(9), 1);
  }

  /** SEED 26: 4 off cell 24 is outside a grid of 7 by 7, whichever way it flies. */
  private static void emberBehindTheEdge() {
    for (int wind = 0; wind < 8; wind++) {
      HeathFire x = wood(7, 7, 24, wind, 2, 26);
      x.light(24, 0);
      x.step(1);
      due.is("wind " + wind + ", none is thrown", x.told(9), 0);
      due.is("wind " + wind + ", HEAT of the 8 alone", x.told(7), 46);
    }
  }

  /** SEED 3: the wood at 4 throws to 2, which cell 1 gives HEAT against the wind; DAMP goes by all that was given. */
  private static void emberAddsToHeat() {
    HeathFire x = wood(2, 8, 4, 6, 2, 3);
    x.cell(1, GRASS, 100, 0, 0);
    x.cell(2, PEAT, 100, 100, 0);
    x.light(1, 0);
    x.light(4, 0);
    x.step(1);
    due.is("6 and 40", x.about(2, 3), 12 * (8 - 4) / 8 + 40);
    due.is("DAMP is less by 46 by 4", x.about(2, 2), 100 - 11);
    x.step(1);
    due.is("6 and half of it", x.about(2, 3), 6 + 23);
  }

  /** SEED 273: the wood at 0 throws 3 off, the one at 1 throws 2 off. */
  private static void twoEmbersOnOneCell() {
    HeathFire x = wood(2, 8, 0, 2, 2, 273);
    x.cell(1, WOOD, 100, 0, 0);
    x.light(0, 0);
    x.light(1, 0);
    x.step(1);
    due.is("EMBERS", x.told(9), 2);
    due.is("HEAT", x.about(3, 3), 80);
  }

  private static void emberOfTheLastFUEL() {
    HeathFire x = wood(9, 9, 40, 2, 2, 24);
    x.cell(40, WOOD, 1, 0, 0);
    x.light(40, 0);
    x.step(1);
    due.is("BURNT", x.about(40, 0), 3);
    due.is("EMBERS", x.told(9), 1);
  }

  private static void noEmberOfADousedCell() {
    HeathFire x = wood(9, 9, 40, 2, 2, 24);
    x.cell(41, ROAD, 0, 0, 0);
    x.crew(41);
    x.plan(0, 3, 0);
    x.light(40, 0);
    x.step(1);
    due.is("DOUSED", x.about(40, 0), 5);
    due.is("EMBERS", x.told(9), 0);
    due.is("HEAT of all", x.told(7), 0);
  }

  /** LOTS of great SEEDS, reckoned apart with whole numbers: the EMBER of a wood that is lit in a STEP goes to a cell. */
  private static void lotsWrapAround() {
    int[][] lots = {{Integer.MAX_VALUE, 0, 7, 10}, {Integer.MAX_VALUE, 0, 21, 23}, {Integer.MAX_VALUE, 1, 20, 22},
        {Integer.MIN_VALUE, 0, 0, 3}, {Integer.MIN_VALUE, 0, 1, 3}, {Integer.MIN_VALUE, 1, 26, 28}, {-1, 0, 11, 13},
        {-1, 1, 9, 11}, {-1, 1, 23, 26}, {65536, 0, 10, 12}, {65536, 1, 23, 25}};
    for (int[] lot : lots) {
      HeathFire x = wood(2, 16, lot[2], 2, 2, lot[0]);
      x.light(lot[2], lot[1]);
      x.step(lot[1] + 1);
      String name = "SEED " + lot[0] + ", STEP " + lot[1] + ", cell " + lot[2];
      due.is(name + ", EMBERS", x.told(9), 1);
      due.is(name + ", HEAT", x.about(lot[3], 3), 40);
    }
  }

  private static void halfOfHEATIsCut() {
    HeathFire x = new HeathFire();
    x.cell(0, GRASS, 11, 0, 0);
    x.light(0, 0);
    int[] heat = {11, 5, 2, 1, 0, 0};
    for (int s = 0; s < heat.length; s++) {
      x.step(1);
      due.is("behind STEP " + s, x.about(1, 3), heat[s]);
    }
  }

  /** 11 HEAT is given once: DAMP is less by 2. */
  private static void dampNotBelow0() {
    int[] damp = {0, 1, 2, 3};
    int[] left = {0, 0, 0, 1};
    for (int i = 0; i < damp.length; i++) {
      HeathFire x = new HeathFire();
      x.cell(0, GRASS, 11, 0, 0);
      x.cell(1, PEAT, 50, damp[i], 0);
      x.light(0, 0);
      x.step(1);
      due.is("DAMP " + damp[i], x.about(1, 2), left[i]);
      x.step(1);
      due.is("half of the old HEAT does not dry", x.about(1, 2), left[i]);
    }
  }

  private static void dampNotAbove100() {
    int[] damp = {72, 73, 74, 99, 100};
    int[] left = {99, 100, 100, 100, 100};
    for (int i = 0; i < damp.length; i++) {
      HeathFire x = Make.even(2, 2, PEAT, 50, damp[i]);
      x.weather(0, 0, 0, 9);
      x.step(1);
      due.is("DAMP " + damp[i] + " in RAIN 9", x.about(0, 2), left[i]);
      x.step(1);
      due.is("DAMP " + damp[i] + " in RAIN 9 twice", x.about(0, 2), 100);
    }
  }

  /** Each lit GRASS gives 12 HEAT; DAMP is chosen so that, dried by a quarter of what was given, it just catches. */
  private static void catchesAtCATCHAndDAMP() {
    int[] least = {0, 20, 30, 50, 40};
    for (int ground = GRASS; ground <= PEAT; ground++) {
      for (int lit = 1; lit <= 8; lit++) {
        int heat = 12 * lit;
        int damp = heat - least[ground] + heat / 4;
        if (damp >= heat / 4 && damp < 100) {
          due.is(lit + " lit, GROUND " + ground + ", DAMP " + damp, caughtBy(lit, ground, damp), 2);
          due.is(lit + " lit, GROUND " + ground + ", DAMP one more", caughtBy(lit, ground, damp + 1), 1);
        }
      }
    }
  }

  /** The STATE of a middle cell, of so many cells about it ALIGHT, behind one STEP in calm on flat land. */
  private static int caughtBy(int lit, int ground, int damp) {
    int[] about = {0, 1, 2, 3, 5, 6, 7, 8};
    HeathFire x = Make.even(3, 3, GRASS, 50, 100);
    x.cell(4, ground, 50, damp, 10);
    for (int i = 0; i < lit; i++) {
      x.light(about[i], 0);
    }
    x.step(1);
    return x.about(4, 0);
  }

  private static HeathFire inRain(int ground, int fuel, int rain, int seed) {
    HeathFire x = new HeathFire();
    x.cell(0, ground, fuel, 0, 0);
    x.seed(seed);
    x.weather(0, 0, 0, rain);
    x.light(0, 0);
    return x;
  }

  /** SEED 12: LOT (k 2) of cell 0 in STEP 0 leaves 2 by 10, so RAIN from 3 on would do. */
  private static void rainNotAboveBURN() {
    for (int ground = GRASS; ground <= PEAT; ground++) {
      for (int rain = 0; rain <= 9; rain++) {
        HeathFire x = inRain(ground, 100, rain, 12);
        x.step(1);
        due.is("GROUND " + ground + " in RAIN " + rain, x.about(0, 0), rain > RATE[ground] && rain > 2 ? 5 : 2);
      }
    }
  }

  private static void rainAndTheLastFUEL() {
    HeathFire x = inRain(PEAT, 2, 9, 12);
    x.step(1);
    due.is("BURNT, not DOUSED", x.about(0, 0), 3);
    HeathFire y = inRain(PEAT, 1, 9, 12);
    y.step(1);
    due.is("BURN is 1, BURNT", y.about(0, 0), 3);
    HeathFire z = inRain(PEAT, 3, 9, 12);
    z.step(1);
    due.is("1 is left, DOUSED", z.about(0, 0), 5);
    due.is("FUEL", z.about(0, 1), 1);
    z.step(1);
    due.is("DOUSED for good", z.about(0, 1), 1);
  }

  private static void noRainDousesNothing() {
    for (int seed = 0; seed < 40; seed++) {
      HeathFire x = inRain(PEAT, 200, 0, seed);
      x.step(99);
      due.is("SEED " + seed, x.about(0, 0), 2);
      due.is("FUEL", x.about(0, 1), 2);
    }
  }

  /** RAIN 2 is not above BURN of PEAT. All had DAMP 90; 3, 5 and what lies below get HEAT of 4. */
  private static void otherSTATESStay() {
    HeathFire x = Make.states();
    x.weather(2, 0, 0, 2);
    x.step(1);
    int[] damp = {90, 96, 90, 90, 90, 90};
    int[] fuel = {0, 100, 96, 0, 0, 100};
    for (int state = 0; state < 6; state++) {
      int n = Make.CELL_OF_STATE[state];
      due.is("STATE " + state + " stays", x.about(n, 0), state);
      due.is("DAMP of STATE " + state, x.about(n, 2), damp[state]);
      due.is("FUEL of STATE " + state, x.about(n, 1), fuel[state]);
    }
    due.is("DAMP of ROAD with HEAT", x.about(3, 2), 90);
    due.is("HEAT of ROAD", x.about(3, 3), 2 + 1);
  }

  private static void quarterOfSMOKEIsCut() {
    int[] fuel = {1, 2, 3, 4, 5, 7, 8, 11, 12};
    int[] left = {1, 2, 3, 3, 4, 6, 6, 9, 9};
    for (int i = 0; i < fuel.length; i++) {
      HeathFire x = new HeathFire();
      x.cell(0, GRASS, fuel[i], 0, 0);
      x.weather(0, 2, 0, 0);
      x.light(0, 0);
      x.step(1);
      due.cells("FUEL " + fuel[i] + " in calm", x, 4, left[i], 0, 0, 0);
      x.step(100);
      due.cells("3 and less stays", x, 4, Math.min(3, fuel[i]), 0, 0, 0);
    }
  }

  private static void halfOfSMOKEIsCut() {
    int[] fuel = {1, 2, 3, 4, 5, 7, 8, 9, 12};
    int[] gone = {0, 1, 1, 2, 2, 3, 4, 4, 6};
    int[] left = {1, 1, 2, 2, 3, 3, 3, 4, 5};
    for (int i = 0; i < fuel.length; i++) {
      for (int strength = 1; strength <= 4; strength++) {
        HeathFire x = new HeathFire();
        x.cell(0, GRASS, fuel[i], 0, 0);
        x.weather(0, 2, strength, 0);
        x.light(0, 0);
        x.step(1);
        due.cells("FUEL " + fuel[i] + ", strength " + strength, x, 4, left[i], gone[i], 0, 0);
      }
    }
  }

  private static void smokeFliesAllWays() {
    for (int lit = 0; lit < 9; lit++) {
      for (int wind = 0; wind < 8; wind++) {
        HeathFire x = new HeathFire();
        x.grid(3, 3);
        x.cell(lit, GRASS, 12, 0, 0);
        x.weather(0, wind, 1, 0);
        x.light(lit, 0);
        x.step(1);
        int row = lit / 3 + DOWN[wind];
        int column = lit % 3 + RIGHT[wind];
        boolean inside = row >= 0 && row < 3 && column >= 0 && column < 3;
        String name = lit + " burns, wind " + wind;
        due.is(name + ", its own", x.about(lit, 4), 5);
        due.is(name + ", all", x.told(8), inside ? 11 : 5);
        if (inside) {
          due.is(name + ", where it blows to", x.about(row * 3 + column, 4), 6);
        }
      }
    }
  }

  private static void smokeAddsUp() {
    for (int wind = 2; wind <= 6; wind += 4) {
      HeathFire x = Make.even(2, 2, GRASS, 12, 100);
      x.weather(0, wind, 1, 0);
      x.light(0, 0);
      x.light(1, 0);
      x.step(1);
      due.cells("wind " + wind, x, 4, wind == 6 ? 11 : 5, wind == 6 ? 5 : 11, 0, 0);
    }
  }

  private static void arrivalIsTheFirst() {
    HeathFire x = Make.even(2, 2, PEAT, 4, 100);
    x.light(1, 3);
    x.light(1, 4);
    x.light(1, 9);
    due.is("NONE yet", x.about(1, 7), NONE);
    x.step(3);
    due.is("NONE still", x.about(1, 7), NONE);
    x.step(1);
    due.is("STEP 3", x.about(1, 7), 3);
    x.step(10);
    due.is("BURNT, STEP 3 still", x.about(1, 7), 3);
    due.is("of a cell that never was", x.about(0, 7), NONE);
    HeathFire y = Make.even(2, 2, PEAT, 4, 100);
    y.light(2, 0);
    y.step(1);
    due.is("STEP 0", y.about(2, 7), 0);
  }

  private static void whatAboutTakes() {
    HeathFire x = Make.even(2, 3, HEATH, 33, 44);
    int[] want = {1, 33, 44, 0, 0, HEATH, 10, NONE};
    for (int what = 0; what < 8; what++) {
      due.is("about(0, " + what + ")", x.about(0, what), want[what]);
      due.is("about(5, " + what + ")", x.about(5, what), want[what]);
      due.is("about(6, " + what + ")", x.about(6, what), UNKNOWN);
      due.is("about(-1, " + what + ")", x.about(-1, what), UNKNOWN);
    }
    due.is("about(5, -1)", x.about(5, -1), OUTSIDE);
    due.is("about(5, 8)", x.about(5, 8), OUTSIDE);
    due.is("about(6, 8)", x.about(6, 8), UNKNOWN);
  }

  private static void manyOfEachSTATE() {
    HeathFire x = Make.states();
    int[] want = {19, 1, 1, 1, 1, 1};
    for (int state = 0; state < 6; state++) {
      due.is("many(" + state + ")", x.many(state), want[state]);
    }
    due.is("many(-1)", x.many(-1), OUTSIDE);
    due.is("many(6)", x.many(6), OUTSIDE);
    HeathFire y = Make.even(16, 16, GRASS, 1, 0);
    due.is("all of the greatest grid", y.many(1), 256);
    due.is("none", y.many(0), 0);
  }

  /** Behind states(): 6 burnt 2 in STEP 0, 4 burnt 2 in STEP 1. HEAT: 2 by 2 of 5, then 1 of 5 and 2 of 5. */
  private static void toldOfEach() {
    HeathFire x = Make.states();
    int[] want = {2, 12, 2, 0, 2, 1, 100 + 98 + 100, 5 * 1 + 5 * 2, 2 + 2, 0, 4, 0, 0, 0};
    for (int what = 0; what < 14; what++) {
      due.is("told(" + what + ")", x.told(what), want[what]);
    }
    due.is("told(-1)", x.told(-1), OUTSIDE);
    due.is("told(14)", x.told(14), OUTSIDE);
    HeathFire y = Make.even(16, 16, GRASS, 200, 0);
    due.is("the most FUEL", y.told(6), 256 * 200);
  }

  private static void skyOfAnyStep() {
    HeathFire x = new HeathFire();
    for (int what = 0; what < 3; what++) {
      due.is("without WEATHER, sky(0, " + what + ")", x.sky(0, what), 0);
      due.is("without WEATHER, sky(MAX, " + what + ")", x.sky(Integer.MAX_VALUE, what), 0);
    }
    x.weather(10000, 5, 4, 3);
    due.is("sky(10000, 0)", x.sky(10000, 0), 5);
    due.is("sky(10001, 1)", x.sky(10001, 1), 4);
    due.is("sky(MAX, 2)", x.sky(Integer.MAX_VALUE, 2), 3);
    due.is("sky(9999, 2)", x.sky(9999, 2), 0);
    due.is("sky(-1, 0)", x.sky(-1, 0), OUTSIDE);
    due.is("sky(MIN, 0)", x.sky(Integer.MIN_VALUE, 0), OUTSIDE);
    due.is("sky(10000, -1)", x.sky(10000, -1), OUTSIDE);
    due.is("sky(10000, 3)", x.sky(10000, 3), OUTSIDE);
    due.is("sky(-1, 3)", x.sky(-1, 3), OUTSIDE);
    x.step(1);
    due.is("of a step that is over", x.sky(0, 0), 0);
  }

  /** ALIGHT, BURNT, CUT, DOUSED and BARE cells are no FRONT; one with two ALIGHT about it counts once. */
  private static void frontByNumbers() {
    HeathFire x = Make.even(3, 3, PEAT, 100, 100);
    x.cell(0, PEAT, 0, 0, 0);
    x.cell(8, PEAT, 1, 0, 0);
    x.light(3, 0);
    x.light(4, 0);
    x.light(8, 0);
    due.is("nothing is ALIGHT, front(0)", x.front(0), NONE);
    x.step(1);
    int[] want = {1, 2, 5, 6, 7, NONE, NONE};
    for (int i = 0; i < want.length; i++) {
      due.is("front(" + i + ")", x.front(i), want[i]);
    }
    due.is("front(-1)", x.front(-1), NONE);
  }

  private static void frontGoesRoundNoEdge() {
    HeathFire x = Make.even(3, 3, PEAT, 100, 100);
    x.light(2, 0);
    x.step(1);
    int[] want = {1, 4, 5, NONE};
    for (int i = 0; i < want.length; i++) {
      due.is("2 is ALIGHT, front(" + i + ")", x.front(i), want[i]);
    }
    HeathFire y = Make.even(2, 2, PEAT, 100, 100);
    for (int n = 0; n < 4; n++) {
      y.light(n, 0);
    }
    y.step(1);
    due.is("all are ALIGHT, front(0)", y.front(0), NONE);
    HeathFire z = new HeathFire();
    z.cell(3, PEAT, 100, 0, 0);
    z.light(3, 0);
    z.step(1);
    due.is("WATER about it, front(0)", z.front(0), NONE);
  }
}
