/** Text 3 of the document, crews, and promises 14 to 17: each edge that it names has a test of its own. */
public final class CrewEdgeTest {
  private static final int NONE = HeathFire.NONE, UNKNOWN = HeathFire.UNKNOWN, OUTSIDE = HeathFire.OUTSIDE;
  private static final int STATE = HeathFire.STATE, FULL = HeathFire.FULL, NO = HeathFire.NO;
  private static final int WATER = 0, GRASS = 1, PEAT = 4, ROAD = 5;
  private static final int REST = 0, GO = 1, CUT = 2, DOUSE = 3, FILL = 4, BACKFIRE = 5;
  private static final Due due = new Due("CrewEdgeTest");

  public static void main(String[] args) {
    crewOnEachSTATE();
    crewAtTheGridsEnds();
    eightCREWS();
    aLOSTOneCounts();
    planAtItsEdges();
    nOfOtherKindsDoesNotMatter();
    twelveACTS();
    haltMakesRoom();
    haltOfNone();
    ofCrewAtItsEdges();
    restOneSTEP();
    restHundredSTEPS();
    theNextACTBeginsInTheNextSTEP();
    theLongestWays();
    byRowsAndByColumns();
    goToItsOwnCell();
    heldUpByItsGoal();
    heldUpBySTATE2Alone();
    heldUpByWhatIsLitInThisSTEP();
    heldUpOnItsWay();
    notHeldUpByCorners();
    cutOfEachSTATE();
    cutOfAnotherCREW();
    cutOfACellThatIsLitBetween();
    cutOfACellThatIsDousedBetween();
    cutGoesNotOnWithANewACT();
    douseNotItsOwnCell();
    douseGoesRoundNoEdge();
    douseAllEightCells();
    douseTheMostHEATOrTheLeastNumber();
    douseWithNothingALIGHT();
    douseWithTheLastWATER();
    fillGoesRoundNoEdge();
    fillUpTo40();
    backfireOfEachSTATE();
    lostAsBURNINGBegins();
    savedAheadOfBURNING();
    aLOSTOneStaysAsItWas();
    due.end();
  }

  private static HeathFire road(int rows, int columns) {
    return Make.even(rows, columns, ROAD, 0, 0);
  }

  private static void crewOnEachSTATE() {
    for (int state = 0; state < 6; state++) {
      HeathFire x = Make.states();
      due.is("on STATE " + state, x.crew(Make.CELL_OF_STATE[state]), state == 2 ? NO : 2);
      due.is("CREWS with STATE " + state, x.told(4), state == 2 ? 2 : 3);
    }
    HeathFire x = new HeathFire();
    due.is("on WATER", x.crew(0), NO);
    x.cell(0, ROAD, 0, 0, 0);
    due.is("on ROAD", x.crew(0), 0);
    due.is("on one with a CREW", x.crew(0), 1);
  }

  private static void crewAtTheGridsEnds() {
    HeathFire x = road(2, 3);
    due.is("crew(-1)", x.crew(-1), UNKNOWN);
    due.is("crew(6)", x.crew(6), UNKNOWN);
    due.is("crew(0)", x.crew(0), 0);
    due.is("crew(5)", x.crew(5), 1);
    due.is("the cell", x.ofCrew(1, 0), 5);
  }

  private static void eightCREWS() {
    HeathFire x = road(2, 2);
    for (int i = 0; i < 8; i++) {
      due.is("crew " + i, x.crew(i % 4), i);
    }
    due.is("the 9th", x.crew(0), FULL);
    due.is("CREWS", x.told(4), 8);
    due.is("the 8th has its cell", x.ofCrew(7, 0), 3);
    due.is("the 8th has a PLAN", x.plan(7, GO, 0), 1);
    due.is("no 9th", x.plan(8, GO, 0), UNKNOWN);
    x.step(1);
    due.is("the 8th goes", x.ofCrew(7, 0), 0);
    due.is("FULL behind a STEP", x.crew(0), FULL);
    x.clear();
    due.is("clear() makes room", x.crew(0), 0);
  }

  private static void aLOSTOneCounts() {
    HeathFire x = Make.even(2, 2, PEAT, 100, 100);
    for (int i = 0; i < 8; i++) {
      x.crew(3);
    }
    x.light(3, 0);
    x.step(1);
    due.is("all are LOST", x.ofCrew(0, 4) + x.ofCrew(7, 4), 2);
    due.is("FULL still", x.crew(0), FULL);
    due.is("CREWS", x.told(4), 8);
  }

  private static void planAtItsEdges() {
    HeathFire x = road(2, 3);
    x.crew(0);
    due.is("kind -1", x.plan(0, -1, 1), OUTSIDE);
    due.is("kind 6", x.plan(0, 6, 1), OUTSIDE);
    due.is("REST 0", x.plan(0, REST, 0), OUTSIDE);
    due.is("REST -1", x.plan(0, REST, -1), OUTSIDE);
    due.is("REST 101", x.plan(0, REST, 101), OUTSIDE);
    due.is("GO -1", x.plan(0, GO, -1), UNKNOWN);
    due.is("GO 6", x.plan(0, GO, 6), UNKNOWN);
    due.is("crew -1", x.plan(-1, REST, 1), UNKNOWN);
    due.is("crew 1", x.plan(1, REST, 1), UNKNOWN);
    due.is("no ACT", x.ofCrew(0, 3), 0);
    due.is("REST 1", x.plan(0, REST, 1), 1);
    due.is("REST 100", x.plan(0, REST, 100), 2);
    due.is("GO 0", x.plan(0, GO, 0), 3);
    due.is("GO 5", x.plan(0, GO, 5), 4);
    due.is("GO to WATER may be told", roadToWater().plan(0, GO, 3), 1);
  }

  private static HeathFire roadToWater() {
    HeathFire x = road(2, 2);
    x.cell(3, WATER, 0, 0, 0);
    x.crew(0);
    return x;
  }

  private static void nOfOtherKindsDoesNotMatter() {
    int[] any = {Integer.MIN_VALUE, -1, 0, 1, 4, 101, Integer.MAX_VALUE};
    for (int kind = CUT; kind <= BACKFIRE; kind++) {
      HeathFire x = Make.even(2, 2, PEAT, 100, 100);
      x.crew(0);
      for (int i = 0; i < any.length; i++) {
        due.is("kind " + kind + " with " + any[i], x.plan(0, kind, any[i]), i + 1);
      }
    }
    HeathFire x = Make.even(2, 2, PEAT, 100, 100);
    x.crew(0);
    x.plan(0, CUT, Integer.MAX_VALUE);
    x.step(2);
    due.is("it cuts its own cell", x.about(0, 0), 4);
  }

  private static void twelveACTS() {
    HeathFire x = road(2, 2);
    x.crew(0);
    for (int i = 1; i <= 12; i++) {
      due.is("ACT " + i, x.plan(0, GO, i % 4), i);
    }
    due.is("ACT 13", x.plan(0, REST, 1), FULL);
    due.is("12 ACTS", x.ofCrew(0, 3), 12);
    due.is("of another crew", x.crew(0), 1);
    due.is("it has room", x.plan(1, REST, 1), 1);
    for (int i = 1; i <= 12; i++) {
      x.step(1);
      due.is("ACT " + i + " was done", x.ofCrew(0, 0), i % 4);
      due.is("ACTS left", x.ofCrew(0, 3), 12 - i);
    }
    due.is("kind at hand", x.ofCrew(0, 2), NONE);
    x.step(1);
    due.is("without an ACT it stays", x.ofCrew(0, 0), 0);
  }

  private static void haltMakesRoom() {
    HeathFire x = road(2, 2);
    x.crew(0);
    for (int i = 1; i <= 12; i++) {
      x.plan(0, REST, 100);
    }
    due.is("halt of 12", x.halt(0), 12);
    due.is("halt again", x.halt(0), 0);
    due.is("kind", x.ofCrew(0, 2), NONE);
    due.is("ACT 1 again", x.plan(0, GO, 3), 1);
    x.step(1);
    due.is("it goes at once", x.ofCrew(0, 0), 3);
  }

  private static void haltOfNone() {
    HeathFire x = road(2, 2);
    due.is("no CREW", x.halt(0), UNKNOWN);
    x.crew(0);
    due.is("halt(-1)", x.halt(-1), UNKNOWN);
    due.is("halt(1)", x.halt(1), UNKNOWN);
    due.is("halt without a PLAN", x.halt(0), 0);
  }

  private static void ofCrewAtItsEdges() {
    HeathFire x = road(2, 2);
    due.is("no CREW", x.ofCrew(0, 0), UNKNOWN);
    x.crew(2);
    x.plan(0, BACKFIRE, 0);
    due.crew("each", x, 0, 2, 10, BACKFIRE, 1, 0, 0, 0, 0);
    due.is("what 8", x.ofCrew(0, 8), OUTSIDE);
    due.is("what -1", x.ofCrew(0, -1), OUTSIDE);
    due.is("crew 1", x.ofCrew(1, 0), UNKNOWN);
    due.is("crew 1, what 8", x.ofCrew(1, 8), UNKNOWN);
    due.is("crew -1", x.ofCrew(-1, 0), UNKNOWN);
  }

  private static void restOneSTEP() {
    HeathFire x = road(2, 2);
    x.crew(0);
    x.plan(0, REST, 1);
    x.plan(0, GO, 1);
    x.step(1);
    due.crew("over, but not gone yet", x, 0, 0, 10, GO, 1, 0, 0, 0, 0);
    x.step(1);
    due.is("gone", x.ofCrew(0, 0), 1);
  }

  private static void restHundredSTEPS() {
    HeathFire x = road(2, 2);
    x.crew(0);
    x.plan(0, REST, 100);
    x.plan(0, REST, 1);
    x.step(99);
    due.is("behind 99", x.ofCrew(0, 3), 2);
    x.step(1);
    due.is("behind 100", x.ofCrew(0, 3), 1);
    x.step(1);
    due.is("behind 101", x.ofCrew(0, 3), 0);
  }

  /** Each of these ACTS is over at once, but takes a STEP. */
  private static void theNextACTBeginsInTheNextSTEP() {
    HeathFire x = road(2, 2);
    x.crew(0);
    int[] kinds = {GO, CUT, DOUSE, FILL, BACKFIRE};
    for (int kind : kinds) {
      x.plan(0, kind, 0);
    }
    x.plan(0, GO, 3);
    for (int i = 0; i < kinds.length; i++) {
      due.is("at hand ahead of STEP " + i, x.ofCrew(0, 2), kinds[i]);
      x.step(1);
      due.is("ACTS behind STEP " + i, x.ofCrew(0, 3), 5 - i);
      due.is("cell behind STEP " + i, x.ofCrew(0, 0), 0);
    }
    x.step(1);
    due.is("now it went", x.ofCrew(0, 0), 3);
  }

  private static void theLongestWays() {
    int[][] ways = {{0, 255}, {255, 0}, {15, 240}, {240, 15}, {0, 15}, {240, 0}, {255, 240}};
    HeathFire x = road(16, 16);
    for (int i = 0; i < ways.length; i++) {
      x.crew(ways[i][0]);
      x.plan(i, GO, ways[i][1]);
    }
    x.step(14);
    for (int i = 0; i < ways.length; i++) {
      due.is("still going", x.ofCrew(i, 3), 1);
    }
    x.step(1);
    for (int i = 0; i < ways.length; i++) {
      due.crew("there behind 15", x, i, ways[i][1], 10, NONE, 0, 0, 0, 0, 0);
    }
  }

  private static void byRowsAndByColumns() {
    HeathFire x = road(4, 6);
    x.crew(1);
    x.plan(0, GO, 20);
    x.plan(0, GO, 5);
    int[] at = {8, 14, 20, 15, 10, 5};
    for (int i = 0; i < at.length; i++) {
      x.step(1);
      due.is("behind STEP " + i, x.ofCrew(0, 0), at[i]);
    }
    HeathFire y = road(3, 3);
    y.crew(2);
    y.plan(0, GO, 3);
    y.step(1);
    due.is("from 2 to 3 is no neighbour", y.ofCrew(0, 0), 4);
    y.step(1);
    due.is("there", y.ofCrew(0, 0), 3);
  }

  private static void goToItsOwnCell() {
    HeathFire x = road(2, 2);
    x.crew(2);
    x.plan(0, GO, 2);
    x.step(1);
    due.crew("it is there", x, 0, 2, 10, NONE, 0, 0, 0, 0, 0);
  }

  private static void heldUpByItsGoal() {
    HeathFire x = roadToWater();
    x.plan(0, GO, 3);
    x.plan(0, GO, 1);
    x.step(1);
    due.crew("WATER", x, 0, 0, 10, GO, 1, 0, 1, 0, 0);
    x.step(1);
    due.crew("then on", x, 0, 1, 10, NONE, 0, 0, 1, 0, 0);
  }

  private static void heldUpBySTATE2Alone() {
    for (int state = 0; state < 6; state++) {
      HeathFire x = Make.states();
      int n = Make.CELL_OF_STATE[state];
      x.crew(12 + n);
      x.plan(2, GO, n);
      x.step(1);
      due.crew("onto STATE " + state, x, 2, state == 2 ? 12 + n : n, 10, NONE, 0, 0, state == 2 ? 1 : 0, 0, 0);
    }
  }

  private static void heldUpByWhatIsLitInThisSTEP() {
    HeathFire x = Make.even(2, 2, PEAT, 100, 100);
    x.light(1, 0);
    x.crew(0);
    x.plan(0, GO, 1);
    x.step(1);
    due.crew("it stays", x, 0, 0, 10, NONE, 0, 0, 1, 0, 0);
  }

  private static void heldUpOnItsWay() {
    HeathFire x = road(2, 5);
    x.cell(3, WATER, 0, 0, 0);
    x.crew(0);
    x.plan(0, GO, 4);
    x.plan(0, GO, 4);
    x.step(2);
    due.crew("two cells on", x, 0, 2, 10, GO, 2, 0, 0, 0, 0);
    x.step(1);
    due.crew("HELD UP", x, 0, 2, 10, GO, 1, 0, 1, 0, 0);
    x.step(1);
    due.crew("once more", x, 0, 2, 10, NONE, 0, 0, 2, 0, 0);
    x.step(5);
    due.is("no ACT, not HELD UP", x.ofCrew(0, 5), 2);
  }

  private static void notHeldUpByCorners() {
    HeathFire x = road(2, 2);
    x.cell(1, WATER, 0, 0, 0);
    x.cell(2, WATER, 0, 0, 0);
    x.crew(0);
    x.plan(0, GO, 3);
    x.step(1);
    due.crew("between two WATERS", x, 0, 3, 10, NONE, 0, 0, 0, 0, 0);
  }

  private static void cutOfEachSTATE() {
    int[] behind = {0, 4, 2, 3, 4, 5};
    for (int state = 0; state < 6; state++) {
      if (state != 2) {
        HeathFire x = Make.states();
        int n = Make.CELL_OF_STATE[state];
        x.crew(n);
        x.plan(2, CUT, 0);
        x.step(1);
        due.is("STATE " + state + ", at once over", x.ofCrew(2, 3), state == 1 ? 1 : 0);
        due.is("STATE " + state + " stays for a STEP", x.about(n, 0), state);
        x.step(1);
        due.is("STATE " + state + " becomes", x.about(n, 0), behind[state]);
        due.is("STATE " + state + ", CUT", x.ofCrew(2, 6), state == 1 ? 1 : 0);
        due.is("STATE " + state + ", FUEL", x.about(n, 1), state == 5 ? 100 : 0);
        due.is("STATE " + state + ", over", x.ofCrew(2, 3), 0);
      }
    }
  }

  private static void cutOfAnotherCREW() {
    HeathFire x = Make.even(2, 2, GRASS, 100, 100);
    x.crew(0);
    x.crew(0);
    x.plan(0, CUT, 0);
    x.plan(1, CUT, 0);
    x.step(2);
    due.crew("the first one cuts", x, 0, 0, 10, NONE, 0, 0, 0, 1, 0);
    due.crew("for the other it is over", x, 1, 0, 10, NONE, 0, 0, 0, 0, 0);
    due.is("CUT", x.many(4), 1);
  }

  private static void cutOfACellThatIsLitBetween() {
    HeathFire x = Make.even(2, 2, PEAT, 100, 100);
    x.crew(0);
    x.plan(0, CUT, 0);
    x.light(0, 1);
    x.step(2);
    due.crew("LOST, not CUT", x, 0, 0, 10, NONE, 0, 1, 0, 0, 0);
    due.is("ALIGHT", x.about(0, 0), 2);
    due.is("FUEL", x.about(0, 1), 98);
  }

  private static void cutOfACellThatIsDousedBetween() {
    HeathFire x = Make.even(2, 2, PEAT, 100, 100);
    x.crew(3);
    x.crew(0);
    x.plan(0, REST, 1);
    x.plan(0, DOUSE, 0);
    x.plan(1, CUT, 0);
    x.plan(1, REST, 9);
    x.light(0, 1);
    x.step(2);
    due.crew("over, not CUT, not LOST", x, 1, 0, 10, REST, 1, 0, 0, 0, 0);
    due.is("DOUSED", x.about(0, 0), 5);
    due.is("FUEL", x.about(0, 1), 100);
  }

  /** The first CUT is broken off in its first STEP by halt(), as if it had not begun. */
  private static void cutGoesNotOnWithANewACT() {
    HeathFire x = Make.even(2, 2, PEAT, 100, 100);
    x.crew(0);
    x.plan(0, CUT, 0);
    x.step(1);
    due.is("halt", x.halt(0), 1);
    x.step(1);
    due.is("not CUT", x.about(0, 0), 1);
    x.plan(0, CUT, 0);
    x.step(1);
    due.is("first STEP", x.about(0, 0), 1);
    x.step(1);
    due.is("second STEP", x.about(0, 0), 4);
  }

  private static void douseNotItsOwnCell() {
    HeathFire x = Make.even(2, 2, PEAT, 100, 100);
    x.crew(0);
    x.plan(0, DOUSE, 0);
    x.light(0, 0);
    x.step(1);
    due.crew("LOST", x, 0, 0, 10, NONE, 0, 1, 0, 0, 0);
    due.is("its own cell burns", x.about(0, 0), 2);
  }

  /** On a grid of 3 by 3 the cells 2 and 3, 5 and 6 lie at the two ends of rows. */
  private static void douseGoesRoundNoEdge() {
    int[][] at = {{3, 2}, {3, 5}, {3, 8}, {6, 5}, {6, 2}, {5, 3}, {5, 6}, {0, 8}, {8, 0}, {1, 7}, {0, 2}};
    for (int[] a : at) {
      HeathFire x = Make.even(3, 3, PEAT, 100, 100);
      x.crew(a[0]);
      x.plan(0, DOUSE, 0);
      x.light(a[1], 0);
      x.step(1);
      due.crew(a[1] + " burns", x, 0, a[0], 10, NONE, 0, 0, 0, 0, 0);
      due.is(a[1] + " is ALIGHT", x.about(a[1], 0), 2);
    }
  }

  private static void douseAllEightCells() {
    for (int n = 0; n < 9; n++) {
      if (n != 4) {
        HeathFire x = Make.even(3, 3, PEAT, 100, 100);
        x.crew(4);
        x.plan(0, DOUSE, 0);
        x.light(n, 0);
        x.step(1);
        due.crew(n + " is DOUSED", x, 0, 4, 9, NONE, 0, 0, 0, 0, 1);
        due.is(n + " STATE", x.about(n, 0), 5);
        due.is(n + " FUEL", x.about(n, 1), 100);
        due.is("HEAT of all", x.told(7), 0);
      }
    }
  }

  /** In STEP 1 what was lit in STEP 0 has HEAT of its neighbours: 8 has none, 0 and 1, 2 have some, 1 the most. */
  private static void douseTheMostHEATOrTheLeastNumber() {
    HeathFire x = Make.even(3, 3, PEAT, 100, 100);
    x.cell(4, ROAD, 0, 0, 10);
    x.crew(4);
    x.plan(0, REST, 1);
    for (int i = 0; i < 4; i++) {
      x.plan(0, DOUSE, 0);
    }
    for (int n : new int[] {0, 1, 2, 8}) {
      x.light(n, 0);
    }
    x.step(1);
    due.is("HEAT of 0", x.about(0, 3), 2);
    due.is("HEAT of 1", x.about(1, 3), 4);
    due.is("HEAT of 2", x.about(2, 3), 2);
    due.is("HEAT of 8", x.about(8, 3), 0);
    int[] order = {1, 0, 2, 8};
    for (int i = 0; i < order.length; i++) {
      x.step(1);
      due.is("DOUSED in turn " + i, x.about(order[i], 0), 5);
      due.is("DOUSED until turn " + i, x.many(5), i + 1);
    }
  }

  private static void douseWithNothingALIGHT() {
    HeathFire x = Make.even(3, 3, PEAT, 100, 100);
    x.crew(4);
    for (int i = 0; i < 11; i++) {
      x.plan(0, DOUSE, 0);
    }
    int[] about = {0, 1, 2, 3, 5, 6, 7, 8};
    for (int n : about) {
      x.light(n, 0);
    }
    x.step(8);
    due.crew("eight", x, 0, 4, 2, DOUSE, 3, 0, 0, 0, 8);
    due.is("all are DOUSED", x.many(5), 8);
    x.step(3);
    due.crew("nothing is ALIGHT, just over", x, 0, 4, 2, NONE, 0, 0, 0, 0, 8);
  }

  /** Eight cells are doused from cell 7, then from cell 10, beside WATER at 17, two of four. */
  private static void douseWithTheLastWATER() {
    HeathFire x = Make.even(3, 6, PEAT, 200, 100);
    x.cell(17, WATER, 0, 0, 10);
    for (int n : new int[] {0, 1, 2, 6, 8, 12, 13, 14}) {
      x.light(n, 0);
    }
    for (int n : new int[] {3, 4, 5, 9}) {
      x.light(n, 11);
    }
    x.crew(7);
    for (int i = 0; i < 8; i++) {
      x.plan(0, DOUSE, 0);
    }
    x.plan(0, GO, 10);
    x.step(11);
    due.crew("eight are DOUSED", x, 0, 10, 2, NONE, 0, 0, 0, 0, 8);
    int[] kinds = {DOUSE, DOUSE, DOUSE, FILL, DOUSE};
    int[] water = {1, 0, 0, 40, 39};
    int[] doused = {9, 10, 10, 10, 11};
    for (int kind : kinds) {
      x.plan(0, kind, 0);
    }
    for (int i = 0; i < kinds.length; i++) {
      x.step(1);
      due.crew("ACT " + i, x, 0, 10, water[i], i < 4 ? kinds[i + 1] : NONE, 4 - i, 0, 0, 0, doused[i]);
    }
  }

  private static void fillGoesRoundNoEdge() {
    int[][] at = {{3, 2}, {3, 5}, {3, 8}, {6, 5}, {5, 3}, {5, 6}, {0, 8}, {0, 2}, {1, 7}};
    for (int[] a : at) {
      HeathFire x = road(3, 3);
      x.cell(a[1], WATER, 0, 0, 0);
      x.crew(a[0]);
      x.plan(0, FILL, 0);
      x.step(1);
      due.crew("WATER at " + a[1], x, 0, a[0], 10, NONE, 0, 0, 0, 0, 0);
    }
  }

  /** From 0 it fills in douseWithTheLastWATER. */
  private static void fillUpTo40() {
    HeathFire x = Make.even(3, 3, PEAT, 100, 100);
    x.cell(4, ROAD, 0, 0, 10);
    x.cell(8, WATER, 0, 0, 10);
    x.crew(4);
    x.plan(0, FILL, 0);
    x.plan(0, FILL, 0);
    x.plan(0, DOUSE, 0);
    x.plan(0, FILL, 0);
    x.light(0, 0);
    x.step(1);
    due.is("from 10", x.ofCrew(0, 1), 40);
    x.step(1);
    due.is("from 40", x.ofCrew(0, 1), 40);
    x.step(1);
    due.is("DOUSED", x.ofCrew(0, 1), 39);
    x.step(1);
    due.crew("from 39", x, 0, 4, 40, NONE, 0, 0, 0, 0, 1);
  }

  private static void backfireOfEachSTATE() {
    for (int state = 0; state < 6; state++) {
      if (state != 2) {
        HeathFire x = Make.states();
        int n = Make.CELL_OF_STATE[state];
        x.crew(n);
        x.plan(2, BACKFIRE, 0);
        x.plan(2, REST, 9);
        x.step(1);
        due.is("STATE " + state + " becomes", x.about(n, 0), state == 1 ? 2 : state);
        due.is("STATE " + state + ", LOST", x.ofCrew(2, 4), state == 1 ? 1 : 0);
        due.is("STATE " + state + ", ACTS left", x.ofCrew(2, 3), state == 1 ? 0 : 1);
      }
    }
  }

  private static void lostAsBURNINGBegins() {
    HeathFire x = Make.even(2, 2, GRASS, 12, 0);
    x.crew(0);
    x.crew(3);
    for (int i = 0; i < 12; i++) {
      x.plan(0, REST, 100);
    }
    x.light(0, 0);
    x.light(1, 0);
    x.step(1);
    due.crew("lit under it", x, 0, 0, 10, NONE, 0, 1, 0, 0, 0);
    due.is("its cell is BURNT already", x.about(0, 0), 3);
    due.is("3 caught in this STEP", x.about(3, 0), 2);
    due.crew("not LOST yet", x, 1, 3, 10, NONE, 0, 0, 0, 0, 0);
    due.is("it may get a PLAN", x.plan(1, GO, 0), 1);
    x.step(1);
    due.crew("away in time, onto BURNT", x, 1, 0, 10, NONE, 0, 0, 0, 0, 0);
  }

  private static void savedAheadOfBURNING() {
    HeathFire x = Make.even(2, 2, PEAT, 100, 100);
    x.crew(0);
    x.crew(1);
    x.plan(0, REST, 5);
    x.plan(1, DOUSE, 0);
    x.light(0, 0);
    x.step(1);
    due.crew("not LOST", x, 0, 0, 10, REST, 1, 0, 0, 0, 0);
    due.is("DOUSED", x.about(0, 0), 5);
    due.is("ARRIVAL", x.about(0, 7), 0);
    due.is("nothing burnt", x.told(10), 0);
  }

  private static void aLOSTOneStaysAsItWas() {
    HeathFire x = Make.even(3, 3, PEAT, 100, 100);
    x.cell(5, WATER, 0, 0, 0);
    x.crew(4);
    x.plan(0, CUT, 0);
    x.plan(0, GO, 5);
    x.plan(0, DOUSE, 0);
    x.plan(0, GO, 7);
    x.plan(0, REST, 9);
    x.light(0, 2);
    x.light(7, 5);
    x.step(5);
    due.crew("ahead", x, 0, 7, 9, REST, 1, 0, 1, 1, 1);
    x.step(1);
    due.crew("LOST", x, 0, 7, 9, NONE, 0, 1, 1, 1, 1);
    x.step(200);
    due.crew("for good", x, 0, 7, 9, NONE, 0, 1, 1, 1, 1);
    due.is("though its cell is BURNT", x.about(7, 0), 3);
    due.is("no PLAN", x.plan(0, REST, 1), STATE);
    due.is("no halt", x.halt(0), STATE);
  }
}
