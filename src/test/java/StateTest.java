/** Promises 21 to 24: keep, back, differs, ahead. */
public final class StateTest {
  private static final int NONE = HeathFire.NONE, UNKNOWN = HeathFire.UNKNOWN, OUTSIDE = HeathFire.OUTSIDE;
  private static final int STATE = HeathFire.STATE;
  private static final int GRASS = 1, HEATH = 2, ROAD = 5;
  private static final Due due = new Due("StateTest");

  public static void main(String[] args) {
    placesAreThree();
    backIsAsItWas();
    backBringsCrewsAndStrips();
    backLeavesWhatWasTold();
    goneSince();
    refusedIsNotGone();
    differsCounts();
    keepsOverClear();
    aheadAnswersTheStep();
    aheadLeavesAllAsItIs();
    aheadSeesCrewsAndLights();
    due.end();
  }

  private static HeathFire burning() {
    HeathFire x = Make.even(6, 4, GRASS, 70, 3);
    x.cell(23, 0, 0, 0, 0);
    x.cell(9, HEATH, 90, 0, 12);
    x.weather(0, 3, 3, 0);
    x.weather(5, 1, 2, 1);
    x.light(0, 0);
    x.light(20, 3);
    x.strips(3);
    x.crew(22);
    x.crew(17);
    x.plan(0, 4, 0);
    x.plan(0, 1, 14);
    x.plan(0, 3, 0);
    x.plan(1, 0, 2);
    x.plan(1, 2, 0);
    x.plan(1, 1, 1);
    return x;
  }

  private static void placesAreThree() {
    HeathFire x = new HeathFire();
    int[] wrong = {-1, 3, Integer.MIN_VALUE, Integer.MAX_VALUE};
    for (int place : wrong) {
      due.is("keep(" + place + ")", x.keep(place), UNKNOWN);
      due.is("back(" + place + ")", x.back(place), UNKNOWN);
      due.is("differs(" + place + ")", x.differs(place), UNKNOWN);
    }
    for (int place = 0; place < 3; place++) {
      due.is("back(" + place + ")", x.back(place), UNKNOWN);
      due.is("differs(" + place + ")", x.differs(place), UNKNOWN);
      due.is("keep(" + place + ")", x.keep(place), place);
      due.is("step(1)", x.step(1), place + 1);
    }
    due.is("back(1)", x.back(1), 1);
    due.is("back(2)", x.back(2), 2);
    due.is("back(0)", x.back(0), 0);
    due.is("keep over", x.keep(2), 0);
    x.step(7);
    due.is("back(2) again", x.back(2), 0);
  }

  private static HeathFire kept() {
    HeathFire x = burning();
    x.step(3);
    due.is("keep", x.keep(1), 3);
    return x;
  }

  private static void backIsAsItWas() {
    HeathFire x = kept();
    x.step(6);
    due.is("back", x.back(1), 3);
    Look.alike(due, "back", x, kept());
    HeathFire y = kept();
    HeathFire z = kept();
    y.step(6);
    y.back(1);
    y.step(6);
    z.step(6);
    Look.alike(due, "on again", y, z);
    HeathFire w = kept();
    w.step(6);
    w.back(1);
    w.step(2);
    due.is("back once more", w.back(1), 3);
    Look.alike(due, "back once more", w, kept());
  }

  private static void backBringsCrewsAndStrips() {
    HeathFire x = kept();
    x.crew(18);
    x.halt(0);
    x.plan(0, 0, 50);
    x.strips(6);
    x.back(1);
    due.is("a CUT goes on where it was", x.ofCrew(1, 2), 2);
    Look.alike(due, "crews and strips", x, kept());
    x.step(1);
    due.is("in its second STEP", x.ofCrew(1, 6), 1);
    due.is("the next crew", x.crew(18), 2);
  }

  private static void backLeavesWhatWasTold() {
    HeathFire x = burning();
    x.keep(0);
    x.weather(0, 0, 0, 9);
    x.light(22, 0);
    x.seed(4);
    x.balanced(true);
    due.is("back", x.back(0), 0);
    due.is("entries", x.told(3), 3);
    due.is("sky", x.sky(0, 2), 9);
    due.is("lights", x.light(21, 0), 4);
    due.is("seed", x.seed(0), 4);
    due.is("balanced", x.balanced(false), 1);
    due.is("STEP 0, so a cell can be told", x.cell(0, GRASS, 1, 1, 1), 1);
  }

  private static void goneSince() {
    HeathFire x = burning();
    x.keep(0);
    x.keep(1);
    x.cell(3, GRASS, 70, 3, 10);
    due.is("cell() went, back", x.back(0), STATE);
    due.is("cell() went, differs", x.differs(0), STATE);
    due.is("nothing was kept", x.back(2), UNKNOWN);
    x.keep(0);
    due.is("kept anew", x.back(0), 0);
    due.is("the other one not", x.back(1), STATE);
    x.grid(6, 4);
    due.is("grid() went, back", x.back(0), STATE);
    due.is("grid() went, differs", x.differs(0), STATE);
    x.clear();
    due.is("behind clear()", x.back(0), STATE);
    due.is("no place", x.differs(3), UNKNOWN);
  }

  private static void refusedIsNotGone() {
    HeathFire x = burning();
    x.keep(0);
    x.cell(3, 9, 70, 3, 10);
    x.cell(99, GRASS, 70, 3, 10);
    x.grid(1, 1);
    x.step(1);
    due.is("cell refused", x.cell(3, GRASS, 70, 3, 10), STATE);
    due.is("grid refused", x.grid(6, 4), STATE);
    due.is("back", x.back(0), 0);
  }

  private static void differsCounts() {
    HeathFire x = Make.even(3, 3, GRASS, 100, 50);
    x.light(4, 0);
    x.keep(0);
    due.is("none yet", x.differs(0), 0);
    x.crew(0);
    x.strips(2);
    due.is("crews and strips are no cells", x.differs(0), 0);
    x.step(1);
    due.is("all: STATE, or DAMP and HEAT", x.differs(0), 9);
    due.is("differs changes nothing", x.differs(0), 9);
    x.back(0);
    due.is("back", x.differs(0), 0);

    HeathFire y = new HeathFire();
    y.grid(2, 5);
    y.cell(0, GRASS, 12, 0, 0);
    y.light(0, 0);
    y.weather(0, 2, 4, 0);
    y.weather(1, 2, 4, 0);
    y.keep(0);
    y.step(1);
    y.keep(1);
    due.is("STATE and FUEL of 0, SMOKE and HEAT of 1, HEAT of 5 and 6", y.differs(0), 4);
    y.step(20);
    due.is("only SMOKE is left", y.about(1, 3), 0);
    y.keep(2);
    due.is("of cells with SMOKE or another STATE", y.differs(0), smoky(y));
  }

  private static int smoky(HeathFire y) {
    int count = 0;
    for (int n = 0; n < 10; n++) {
      count += y.about(n, 4) > 0 || n == 0 ? 1 : 0;
    }
    return count;
  }

  private static void keepsOverClear() {
    HeathFire x = kept();
    x.clear();
    due.is("clear", x.told(2), 0);
    due.is("back", x.back(1), 3);
    Look.alike(due, "over clear()", x, kept());
  }

  /** A row of grass, the wind blows along it: each cell catches in the step behind the one before it. */
  private static HeathFire row() {
    HeathFire x = new HeathFire();
    x.grid(2, 8);
    for (int n = 0; n < 7; n++) {
      x.cell(n, GRASS, 40, 0, 10);
    }
    x.cell(5, ROAD, 0, 0, 0);
    x.weather(0, 2, 4, 0);
    x.light(0, 2);
    return x;
  }

  private static void aheadAnswersTheStep() {
    HeathFire x = row();
    due.is("ahead(-1, 0)", x.ahead(-1, -1), UNKNOWN);
    due.is("ahead(16, 0)", x.ahead(16, 0), UNKNOWN);
    due.is("ahead(0, -1)", x.ahead(0, -1), OUTSIDE);
    due.is("ahead(0, 201)", x.ahead(0, 201), OUTSIDE);
    due.is("ahead(0, 0)", x.ahead(0, 0), NONE);
    due.is("ahead(0, 2)", x.ahead(0, 2), NONE);
    due.is("ahead(0, 3)", x.ahead(0, 3), 2);
    due.is("ahead(0, 200)", x.ahead(0, 200), 2);
    due.is("ahead(1, 3)", x.ahead(1, 3), 2);
    due.is("ahead(2, 3)", x.ahead(2, 3), NONE);
    due.is("ahead(2, 4)", x.ahead(2, 4), 3);
    due.is("ahead(4, 200)", x.ahead(4, 200), 5);
    due.is("a ROAD", x.ahead(5, 200), NONE);
    due.is("behind the ROAD", x.ahead(6, 200), NONE);
    x.step(3);
    due.is("ALIGHT now", x.ahead(0, 200), NONE);
    due.is("ALIGHT now too", x.ahead(1, 200), NONE);
    due.is("the next", x.ahead(2, 1), 3);
    due.is("the one behind", x.ahead(3, 1), NONE);
    x.step(9);
    due.is("BURNT", x.about(0, 0), 3);
    due.is("BURNT, ahead", x.ahead(0, 200), NONE);
  }

  private static HeathFire lookedAhead(int n) {
    HeathFire x = kept();
    x.balanced(true);
    for (int cell = 0; cell < 24; cell++) {
      x.ahead(cell, n);
    }
    return x;
  }

  private static void aheadLeavesAllAsItIs() {
    HeathFire y = kept();
    y.balanced(true);
    HeathFire x = lookedAhead(200);
    due.is("kept stays", x.differs(1), 0);
    Look.alike(due, "ahead", x, y);
    HeathFire z = lookedAhead(200);
    y.step(7);
    z.step(7);
    for (int what = 2; what < 14; what++) {
      due.is("it goes on alike, told(" + what + ")", z.told(what), y.told(what));
    }
    HeathFire w = burning();
    HeathFire v = burning();
    v.step(60);
    for (int n = 0; n < 24; n++) {
      due.is("ahead(" + n + ", 60) is what comes", w.ahead(n, 60), v.about(n, 7));
    }
  }

  private static void aheadSeesCrewsAndLights() {
    HeathFire x = row();
    x.crew(3);
    x.plan(0, 2, 0);
    due.is("cut before the fire comes", x.ahead(3, 100), NONE);
    due.is("and behind it", x.ahead(4, 100), NONE);
    x.light(4, 9);
    due.is("lit later", x.ahead(4, 100), 9);
    x.halt(0);
    due.is("not cut", x.ahead(3, 100), 4);
    x.plan(0, 0, 1);
    x.plan(0, 5, 0);
    due.is("BACKFIRE", x.ahead(3, 100), 1);
  }
}
