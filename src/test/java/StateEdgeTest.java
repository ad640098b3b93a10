/** Promises 21 to 24, states: each edge that the document names has a test of its own. */
public final class StateEdgeTest {
  private static final int NONE = HeathFire.NONE, UNKNOWN = HeathFire.UNKNOWN, OUTSIDE = HeathFire.OUTSIDE;
  private static final int STATE = HeathFire.STATE;
  private static final int WATER = 0, GRASS = 1, WOOD = 3, PEAT = 4, ROAD = 5;
  private static final int REST = 0, GO = 1, CUT = 2, DOUSE = 3, BACKFIRE = 5;
  private static final Due due = new Due("StateEdgeTest");

  public static void main(String[] args) {
    placesFrom0To2();
    placesStandApart();
    keepOver();
    backOfNothing();
    backAgainAndAgain();
    backToSTEP0();
    backBringsPLANS();
    backBringsACTSHalfDone();
    backTakesNewCREWSAway();
    backBringsLOSTOnes();
    backBringsSTRIPSAndCounts();
    backBringsARRIVAL();
    backLeavesWhatWasTold();
    cellWentSince();
    gridWentSince();
    refusedCallsDidNotGo();
    otherCallsDidNotGo();
    keptAnewBehindCell();
    clearLeavesWhatIsKept();
    keptIsNotTouchedBySteps();
    differsInSTATEAlone();
    differsInFUELAlone();
    differsInDAMPAlone();
    differsInHEATAlone();
    differsInSMOKEAlone();
    differsNotInARRIVAL();
    differsInAllOrNone();
    aheadFrom0To200();
    aheadTheLastSTEP();
    aheadOfWhatIsALIGHTOrWas();
    aheadOfWhatCannotBurn();
    aheadBehindSTEPS();
    aheadOfACellThatIsLitAndDoused();
    aheadByWEATHERThatComes();
    aheadLeavesAll();
    whereAllIsFull();
    due.end();
  }

  private static void placesFrom0To2() {
    HeathFire x = new HeathFire();
    x.step(5);
    for (int place = -1; place <= 3; place++) {
      boolean is = place >= 0 && place <= 2;
      due.is("keep(" + place + ")", x.keep(place), is ? 5 : UNKNOWN);
      due.is("back(" + place + ")", x.back(place), is ? 5 : UNKNOWN);
      due.is("differs(" + place + ")", x.differs(place), is ? 0 : UNKNOWN);
    }
  }

  private static void placesStandApart() {
    HeathFire x = Make.even(2, 2, PEAT, 100, 100);
    x.light(0, 0);
    for (int place = 0; place < 3; place++) {
      due.is("keep(" + place + ")", x.keep(place), place);
      x.step(1);
    }
    due.is("back(2)", x.back(2), 2);
    due.is("FUEL of 2", x.about(0, 1), 96);
    due.is("back(0)", x.back(0), 0);
    due.is("FUEL of 0", x.about(0, 1), 100);
    due.is("back(1)", x.back(1), 1);
    due.is("FUEL of 1", x.about(0, 1), 98);
  }

  private static void keepOver() {
    HeathFire x = Make.even(2, 2, PEAT, 100, 100);
    x.light(0, 0);
    x.keep(1);
    x.step(4);
    due.is("kept over", x.keep(1), 4);
    x.step(3);
    due.is("back", x.back(1), 4);
    due.is("FUEL", x.about(0, 1), 92);
    due.is("others are still free", x.back(0), UNKNOWN);
    due.is("and the last", x.differs(2), UNKNOWN);
  }

  private static void backOfNothing() {
    for (int place = 0; place < 3; place++) {
      HeathFire x = new HeathFire();
      x.step(2);
      due.is("back(" + place + ")", x.back(place), UNKNOWN);
      due.is("differs(" + place + ")", x.differs(place), UNKNOWN);
      due.is("STEPS", x.told(2), 2);
      x.clear();
      x.grid(2, 2);
      due.is("back(" + place + ") behind grid()", x.back(place), UNKNOWN);
      due.is("differs(" + place + ") behind grid()", x.differs(place), UNKNOWN);
    }
  }

  private static void backAgainAndAgain() {
    HeathFire x = Make.even(2, 2, PEAT, 100, 100);
    x.light(0, 0);
    x.step(1);
    x.keep(0);
    for (int i = 0; i < 5; i++) {
      x.step(10 * i);
      due.is("back", x.back(0), 1);
      due.is("FUEL", x.about(0, 1), 98);
      due.is("differs", x.differs(0), 0);
    }
    due.is("without a STEP between", x.back(0), 1);
  }

  private static void backToSTEP0() {
    HeathFire x = Make.even(2, 2, PEAT, 100, 100);
    x.keep(0);
    x.step(1);
    due.is("a STEP was done", x.cell(0, PEAT, 1, 0, 0), STATE);
    due.is("back", x.back(0), 0);
    due.is("none was done", x.cell(0, PEAT, 1, 0, 0), 1);
    due.is("but now cell() went", x.back(0), STATE);
  }

  private static void backBringsPLANS() {
    HeathFire x = Make.even(4, 4, ROAD, 0, 0);
    x.crew(0);
    x.plan(0, GO, 15);
    x.plan(0, REST, 2);
    x.plan(0, GO, 12);
    x.keep(0);
    x.halt(0);
    x.plan(0, GO, 3);
    x.plan(0, GO, 0);
    x.plan(0, GO, 1);
    x.plan(0, GO, 2);
    x.step(9);
    x.back(0);
    due.crew("back", x, 0, 0, 10, GO, 3, 0, 0, 0, 0);
    x.step(3);
    due.crew("to 15", x, 0, 15, 10, REST, 2, 0, 0, 0, 0);
    x.step(2);
    due.crew("2 STEPS of REST", x, 0, 15, 10, GO, 1, 0, 0, 0, 0);
    x.step(3);
    due.crew("to 12", x, 0, 12, 10, NONE, 0, 0, 0, 0, 0);
  }

  private static void backBringsACTSHalfDone() {
    HeathFire x = Make.even(2, 2, GRASS, 100, 100);
    x.crew(0);
    x.crew(1);
    x.plan(0, CUT, 0);
    x.plan(1, REST, 3);
    x.step(1);
    x.keep(0);
    x.step(4);
    x.back(0);
    due.is("not CUT yet", x.about(0, 0), 1);
    x.step(1);
    due.is("CUT in its second STEP", x.about(0, 0), 4);
    due.is("REST goes on", x.ofCrew(1, 3), 1);
    x.step(1);
    due.is("until its third STEP", x.ofCrew(1, 3), 0);
  }

  private static void backTakesNewCREWSAway() {
    HeathFire x = Make.even(2, 2, ROAD, 0, 0);
    x.keep(0);
    x.crew(1);
    x.keep(1);
    x.crew(2);
    x.crew(3);
    x.back(1);
    due.is("one CREW", x.told(4), 1);
    due.is("no second", x.ofCrew(1, 0), UNKNOWN);
    due.is("the next one is the second", x.crew(0), 1);
    x.back(0);
    due.is("no CREW", x.told(4), 0);
    x.back(1);
    due.crew("and one again", x, 0, 1, 10, NONE, 0, 0, 0, 0, 0);
  }

  private static void backBringsLOSTOnes() {
    HeathFire x = Make.even(2, 2, PEAT, 100, 100);
    x.crew(0);
    x.light(0, 1);
    x.step(1);
    x.keep(0);
    x.step(1);
    x.keep(1);
    due.is("LOST", x.ofCrew(0, 4), 1);
    x.back(0);
    due.is("not LOST", x.ofCrew(0, 4), 0);
    due.is("it may get a PLAN", x.plan(0, GO, 3), 1);
    x.step(1);
    due.is("and gets away", x.ofCrew(0, 4), 0);
    x.back(1);
    due.is("LOST again", x.plan(0, GO, 3), STATE);
  }

  private static void backBringsSTRIPSAndCounts() {
    HeathFire x = Make.even(16, 2, GRASS, 12, 100);
    x.strips(4);
    x.balanced(true);
    for (int n = 0; n < 5; n++) {
      x.light(n, 0);
    }
    x.keep(0);
    x.step(1);
    x.keep(1);
    x.strips(8);
    x.step(3);
    due.is("back", x.back(1), 1);
    due.strips("as behind the split", x, 0, 1, 0, 2, 3, 0, 4, 7, 8, 8, 11, 8, 12, 15, 8);
    due.is("split", x.told(12), 1);
    due.is("burnt", x.told(10), 60);
    x.back(0);
    due.strips("as ahead of it", x, 0, 3, 0, 4, 7, 0, 8, 11, 0, 12, 15, 0);
    due.is("split", x.told(12), 0);
    due.is("burnt", x.told(10), 0);
  }

  private static void backBringsARRIVAL() {
    HeathFire x = Make.even(2, 2, PEAT, 4, 100);
    x.light(0, 0);
    x.light(1, 3);
    x.step(1);
    x.keep(0);
    x.step(9);
    due.cells("ahead", x, 7, 0, 3, NONE, NONE);
    x.back(0);
    due.cells("behind", x, 7, 0, NONE, NONE, NONE);
  }

  private static void backLeavesWhatWasTold() {
    HeathFire x = Make.even(2, 2, PEAT, 100, 100);
    x.weather(0, 1, 1, 1);
    x.seed(5);
    x.light(0, 0);
    x.keep(0);
    x.weather(0, 2, 2, 2);
    x.seed(6);
    x.light(1, 0);
    x.balanced(true);
    x.step(1);
    x.back(0);
    due.is("entries", x.told(3), 2);
    due.is("wind", x.sky(0, 0), 2);
    due.is("SEED", x.seed(6), 6);
    due.is("BALANCED", x.balanced(true), 1);
    x.step(1);
    due.cells("both are lit", x, 0, 2, 2, 1, 1);
    due.is("lights", x.light(2, 0), 3);
  }

  private static void cellWentSince() {
    HeathFire x = Make.even(2, 2, PEAT, 100, 100);
    x.keep(0);
    x.keep(2);
    due.is("the same cell once more", x.cell(0, PEAT, 100, 100, 10), 1);
    for (int place = 0; place < 3; place++) {
      due.is("back(" + place + ")", x.back(place), place == 1 ? UNKNOWN : STATE);
      due.is("differs(" + place + ")", x.differs(place), place == 1 ? UNKNOWN : STATE);
    }
    x.step(3);
    x.clear();
    due.is("STATE behind clear() too", x.back(0), STATE);
    due.is("and for differs", x.differs(2), STATE);
  }

  private static void gridWentSince() {
    HeathFire x = new HeathFire();
    x.keep(1);
    due.is("the same GRID once more", x.grid(2, 2), 4);
    due.is("back", x.back(1), STATE);
    due.is("differs", x.differs(1), STATE);
    x.grid(5, 5);
    x.grid(2, 2);
    due.is("back and forth", x.back(1), STATE);
    due.is("keep of a small grid", x.keep(1), 0);
    x.grid(16, 16);
    due.is("then a great one, back", x.back(1), STATE);
    due.is("then a great one, differs", x.differs(1), STATE);
    due.is("no place", x.back(3), UNKNOWN);
  }

  private static void refusedCallsDidNotGo() {
    HeathFire x = Make.even(2, 2, PEAT, 100, 100);
    x.keep(0);
    due.is("OUTSIDE", x.grid(2, 17), OUTSIDE);
    due.is("cell UNKNOWN", x.cell(4, PEAT, 1, 1, 1), UNKNOWN);
    due.is("cell OUTSIDE", x.cell(0, WATER, 1, 1, 1), OUTSIDE);
    x.step(1);
    due.is("STATE", x.grid(2, 2), STATE);
    due.is("cell STATE", x.cell(0, PEAT, 1, 1, 1), STATE);
    due.is("differs", x.differs(0), 0);
    due.is("back", x.back(0), 0);
  }

  private static void otherCallsDidNotGo() {
    HeathFire x = Make.even(2, 2, PEAT, 100, 100);
    x.keep(0);
    x.weather(0, 1, 1, 1);
    x.seed(4);
    x.light(0, 0);
    x.crew(0);
    x.strips(2);
    x.balanced(true);
    x.clear();
    x.step(2);
    due.is("back", x.back(0), 0);
  }

  private static void keptAnewBehindCell() {
    HeathFire x = Make.even(2, 2, PEAT, 100, 100);
    x.keep(0);
    x.keep(1);
    x.cell(0, GRASS, 7, 0, 10);
    due.is("keep", x.keep(0), 0);
    x.step(1);
    due.is("back", x.back(0), 0);
    due.is("FUEL", x.about(0, 1), 7);
    due.is("the other one is as old as it was", x.back(1), STATE);
  }

  private static void clearLeavesWhatIsKept() {
    HeathFire x = Make.even(2, 2, PEAT, 100, 100);
    x.light(3, 0);
    x.step(2);
    x.keep(2);
    due.is("clear", x.clear(), 2);
    due.is("all four differ", x.differs(2), 4);
    due.is("back", x.back(2), 2);
    due.is("FUEL", x.about(3, 1), 96);
    due.is("ARRIVAL", x.about(3, 7), 0);
  }

  private static void keptIsNotTouchedBySteps() {
    HeathFire x = Make.even(2, 2, GRASS, 100, 0);
    HeathFire y = Make.even(2, 2, GRASS, 100, 0);
    for (HeathFire z : new HeathFire[] {x, y}) {
      z.light(0, 0);
      z.crew(3);
      z.plan(0, GO, 1);
      z.step(1);
      z.keep(0);
    }
    x.step(50);
    x.ahead(3, 200);
    x.back(0);
    Look.alike(due, "back", x, y);
    x.step(50);
    y.step(50);
    Look.alike(due, "and on", x, y);
  }

  /** It is lit and doused in one STEP, and neither burns nor gets HEAT. */
  private static void differsInSTATEAlone() {
    HeathFire x = Make.even(2, 2, PEAT, 100, 100);
    x.crew(3);
    x.plan(0, DOUSE, 0);
    x.light(0, 0);
    x.keep(0);
    x.step(1);
    due.cells("DOUSED", x, 0, 5, 1, 1, 1);
    due.is("differs", x.differs(0), 1);
  }

  /** In calm the SMOKE of PEAT comes to rest at 6, the HEAT about it at 3; its FUEL goes on. */
  private static void differsInFUELAlone() {
    HeathFire x = new HeathFire();
    x.cell(0, PEAT, 200, 0, 0);
    x.light(0, 0);
    x.step(20);
    x.keep(0);
    x.step(1);
    due.cells("HEAT", x, 3, 0, 3, 3, 3);
    due.cells("SMOKE", x, 4, 6, 0, 0, 0);
    due.is("differs", x.differs(0), 1);
  }

  private static void differsInDAMPAlone() {
    HeathFire x = new HeathFire();
    x.cell(1, PEAT, 200, 50, 0);
    x.cell(2, PEAT, 0, 50, 0);
    x.weather(0, 0, 0, 1);
    x.keep(0);
    x.step(1);
    due.is("DAMP", x.about(1, 2), 53);
    due.is("differs", x.differs(0), 1);
  }

  private static void differsInHEATAlone() {
    HeathFire x = new HeathFire();
    x.cell(0, PEAT, 2, 0, 0);
    x.light(0, 0);
    x.step(1);
    x.keep(0);
    x.step(1);
    due.cells("HEAT", x, 3, 0, 1, 1, 1);
    due.is("SMOKE of 2 stays in calm", x.about(0, 4), 2);
    due.is("differs", x.differs(0), 3);
  }

  /** SMOKE of 12 in the first cell, all HEAT is gone before the wind comes. */
  private static void differsInSMOKEAlone() {
    HeathFire x = new HeathFire();
    x.grid(2, 4);
    x.cell(0, GRASS, 12, 0, 0);
    x.light(0, 0);
    x.weather(20, 2, 1, 0);
    x.step(20);
    due.is("HEAT", x.told(7), 0);
    due.cells("SMOKE in calm", x, 4, 3, 0, 0, 0);
    x.keep(0);
    x.step(1);
    due.cells("SMOKE with wind", x, 4, 2, 1, 0, 0);
    due.is("differs", x.differs(0), 2);
  }

  /** One crew sets its cell on fire, the next one douses it in the same STEP: in STEP 0, or in STEP 1. */
  private static void differsNotInARRIVAL() {
    HeathFire x = Make.even(2, 2, PEAT, 100, 100);
    x.crew(0);
    x.crew(3);
    x.keep(0);
    x.plan(0, BACKFIRE, 0);
    x.plan(1, DOUSE, 0);
    x.step(2);
    due.is("STEP 0", x.about(0, 7), 0);
    x.keep(1);
    x.back(0);
    for (int crew = 0; crew < 2; crew++) {
      x.plan(crew, REST, 1);
      x.plan(crew, crew == 0 ? BACKFIRE : DOUSE, 0);
    }
    x.step(2);
    due.is("STEP 1", x.about(0, 7), 1);
    due.is("differs", x.differs(1), 0);
    due.is("but from the first", x.differs(0), 1);
  }

  private static void differsInAllOrNone() {
    HeathFire x = Make.even(16, 16, PEAT, 100, 0);
    x.weather(0, 0, 0, 1);
    x.keep(0);
    x.keep(1);
    due.is("none", x.differs(0), 0);
    x.crew(0);
    x.strips(5);
    x.step(0);
    due.is("crews and strips are no CELLS", x.differs(0), 0);
    x.step(1);
    due.is("all", x.differs(0), 256);
    x.keep(1);
    due.is("none of those kept now", x.differs(1), 0);
  }

  private static void aheadFrom0To200() {
    HeathFire x = Make.even(2, 2, PEAT, 100, 100);
    x.light(1, 0);
    due.is("ahead(1, -1)", x.ahead(1, -1), OUTSIDE);
    due.is("ahead(1, 0)", x.ahead(1, 0), NONE);
    due.is("ahead(1, 1)", x.ahead(1, 1), 0);
    due.is("ahead(1, 200)", x.ahead(1, 200), 0);
    due.is("ahead(1, 201)", x.ahead(1, 201), OUTSIDE);
    due.is("ahead(4, 0)", x.ahead(4, 0), UNKNOWN);
    due.is("ahead(-1, 0)", x.ahead(-1, 0), UNKNOWN);
    due.is("ahead(4, 201)", x.ahead(4, 201), UNKNOWN);
    due.is("ahead(3, 200)", x.ahead(3, 200), NONE);
  }

  private static void aheadTheLastSTEP() {
    HeathFire x = Make.even(2, 2, PEAT, 100, 100);
    x.light(0, 199);
    x.light(1, 200);
    due.is("in the 200th", x.ahead(0, 200), 199);
    due.is("not in 199", x.ahead(0, 199), NONE);
    due.is("behind the 200th", x.ahead(1, 200), NONE);
    x.step(1);
    due.is("in the 199th", x.ahead(0, 199), 199);
    due.is("now in the 200th", x.ahead(1, 200), 200);
  }

  private static void aheadOfWhatIsALIGHTOrWas() {
    HeathFire x = Make.states();
    for (int n : Make.CELL_OF_STATE) {
      x.light(n, 4);
    }
    int[] want = {NONE, 4, NONE, NONE, NONE, NONE};
    for (int state = 0; state < 6; state++) {
      due.is("of STATE " + state, x.ahead(Make.CELL_OF_STATE[state], 200), want[state]);
    }
  }

  private static void aheadOfWhatCannotBurn() {
    HeathFire x = Make.even(3, 3, GRASS, 100, 0);
    x.cell(1, WATER, 0, 0, 0);
    x.cell(3, ROAD, 0, 0, 0);
    x.cell(4, WOOD, 0, 0, 0);
    for (int n = 0; n < 9; n++) {
      x.light(n, 0);
    }
    due.is("WATER", x.ahead(1, 200), NONE);
    due.is("ROAD", x.ahead(3, 200), NONE);
    due.is("BARE", x.ahead(4, 200), NONE);
    due.is("GRASS", x.ahead(5, 200), 0);
  }

  /** The number of the STEP counts from the first one, not from now. */
  private static void aheadBehindSTEPS() {
    HeathFire x = Make.even(2, 2, PEAT, 100, 100);
    x.light(2, 507);
    x.step(500);
    due.is("7 more", x.ahead(2, 7), NONE);
    due.is("8 more", x.ahead(2, 8), 507);
    x.step(7);
    due.is("1 more", x.ahead(2, 1), 507);
    x.step(1);
    due.is("ALIGHT now", x.ahead(2, 200), NONE);
  }

  private static void aheadOfACellThatIsLitAndDoused() {
    HeathFire x = Make.even(2, 2, PEAT, 100, 100);
    x.crew(3);
    x.plan(0, REST, 2);
    x.plan(0, DOUSE, 0);
    x.light(0, 2);
    due.is("it becomes ALIGHT, if only until it is DOUSED", x.ahead(0, 10), 2);
    x.step(3);
    due.is("as its ARRIVAL says", x.about(0, 7), 2);
    due.is("DOUSED now", x.ahead(0, 10), NONE);
  }

  private static void aheadByWEATHERThatComes() {
    HeathFire x = new HeathFire();
    x.cell(0, GRASS, 200, 0, 10);
    x.cell(1, WOOD, 100, 0, 10);
    x.light(0, 0);
    due.is("in calm 23 HEAT is the most", x.ahead(1, 200), NONE);
    x.cell(1, WOOD, 100, 0, 16);
    x.weather(5, 2, 4, 0);
    due.is("uphill 40 behind STEP 4", x.ahead(1, 5), NONE);
    due.is("33 and half of 40 in STEP 5", x.ahead(1, 6), 5);
    x.weather(5, 2, 0, 9);
    due.is("but 21 and half of 40 in calm", x.ahead(1, 6), NONE);
  }

  private static void aheadLeavesAll() {
    HeathFire x = Make.even(3, 3, GRASS, 50, 0);
    HeathFire y = Make.even(3, 3, GRASS, 50, 0);
    for (HeathFire z : new HeathFire[] {x, y}) {
      z.weather(0, 3, 2, 0);
      z.light(0, 0);
      z.crew(8);
      z.plan(0, CUT, 0);
      z.plan(0, GO, 2);
      z.strips(3);
      z.balanced(true);
      z.step(1);
      z.keep(0);
    }
    for (int n = 0; n < 9; n++) {
      x.ahead(n, 200);
    }
    Look.alike(due, "behind ahead()", x, y);
    x.step(5);
    y.step(5);
    Look.alike(due, "and on", x, y);
  }

  /** The greatest grid with all that it can hold: 16 entries, 20 lights, 8 STRIPS, 8 CREWS with 12 ACTS, 3 places. */
  private static void whereAllIsFull() {
    HeathFire x = Make.even(16, 16, GRASS, 200, 0);
    for (int i = 0; i < 16; i++) {
      x.weather(600 + i, 0, 0, 0);
    }
    for (int i = 0; i < 20; i++) {
      x.light(i, 0);
    }
    for (int i = 0; i < 8; i++) {
      x.crew(248 + i);
      for (int act = 0; act < 12; act++) {
        x.plan(i, REST, 100);
      }
    }
    x.strips(8);
    x.balanced(true);
    for (int place = 0; place < 3; place++) {
      due.is("keep(" + place + ")", x.keep(place), 0);
    }
    int seen = x.ahead(255, 200);
    due.is("the fire will come to the last cell", seen > 0 ? 1 : 0, 1);
    due.is("step(500)", x.step(500), 500);
    due.is("all is BURNT", x.many(3), 256);
    due.is("it came as was seen", x.about(255, 7), seen);
    due.crew("the last CREW", x, 7, 255, 10, NONE, 0, 1, 0, 0, 0);
    for (int place = 0; place < 3; place++) {
      int lit = 16 + 16 + 5;
      due.is("all, then what is lit and lies about that", x.differs(place), place == 0 ? 256 : lit);
      due.is("back(" + place + ")", x.back(place), 0);
      due.crew("the last CREW, place " + place, x, 7, 255, 10, REST, 12, 0, 0, 0, 0);
      due.is("the last STRIP, place " + place, x.strip(7, 1), 15);
      x.step(1);
    }
  }
}
