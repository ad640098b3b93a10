/** Promises 14 to 17: crew, plan, halt, ofCrew, and what the acts do in a STEP. */
public final class CrewTest {
  private static final int NONE = HeathFire.NONE, UNKNOWN = HeathFire.UNKNOWN, OUTSIDE = HeathFire.OUTSIDE;
  private static final int STATE = HeathFire.STATE, FULL = HeathFire.FULL, NO = HeathFire.NO;
  private static final int GRASS = 1, PEAT = 4, ROAD = 5;
  private static final int REST = 0, GO = 1, CUT = 2, DOUSE = 3, FILL = 4, BACKFIRE = 5;
  private static final Due due = new Due("CrewTest");

  public static void main(String[] args) {
    crewStands();
    crewRefuses();
    planRefuses();
    planIsFull();
    haltAnswers();
    ofCrewRefuses();
    rests();
    goes();
    goesWhereItIs();
    isHeldUp();
    cuts();
    cutsNothing();
    cutBegunAnewTakesTwoSteps();
    douses();
    dousesTheLeastNumber();
    dousesWithoutWater();
    fills();
    fillsOnItsOwnCell();
    backfires();
    isLost();
    goesOutOfTheFire();
    oneBehindTheOther();
    due.end();
  }

  private static HeathFire road(int rows, int columns) {
    return Make.even(rows, columns, ROAD, 0, 0);
  }

  private static void crewStands() {
    HeathFire x = Make.even(2, 3, GRASS, 30, 0);
    due.is("crew(5)", x.crew(5), 0);
    due.is("crew(5) again", x.crew(5), 1);
    x.step(1);
    due.is("crew any time", x.crew(0), 2);
    due.crew("new", x, 0, 5, 10, NONE, 0, 0, 0, 0, 0);
    due.crew("new", x, 2, 0, 10, NONE, 0, 0, 0, 0, 0);
    due.is("crews", x.told(4), 3);
  }

  private static void crewRefuses() {
    HeathFire x = Make.even(2, 3, PEAT, 30, 50);
    x.cell(0, 0, 0, 0, 0);
    x.light(1, 0);
    due.is("crew(-1)", x.crew(-1), UNKNOWN);
    due.is("crew(6)", x.crew(6), UNKNOWN);
    due.is("on WATER", x.crew(0), NO);
    x.step(1);
    due.is("on ALIGHT", x.crew(1), NO);
    for (int i = 0; i < 8; i++) {
      due.is("crew " + i, x.crew(2), i);
    }
    due.is("9th crew", x.crew(2), FULL);
    due.is("9th crew on WATER", x.crew(0), FULL);
    due.is("9th crew on no cell", x.crew(6), UNKNOWN);
    due.is("crews", x.told(4), 8);
  }

  private static void planRefuses() {
    HeathFire x = Make.even(2, 3, PEAT, 30, 50);
    due.is("no crew", x.plan(0, FILL, 0), UNKNOWN);
    x.crew(2);
    x.crew(3);
    due.is("crew -1", x.plan(-1, 9, 0), UNKNOWN);
    due.is("crew 2", x.plan(2, FILL, 0), UNKNOWN);
    due.is("GO to -1", x.plan(0, GO, -1), UNKNOWN);
    due.is("GO to 6", x.plan(0, GO, 6), UNKNOWN);
    due.is("kind -1", x.plan(0, -1, 0), OUTSIDE);
    due.is("kind 6", x.plan(0, 6, 0), OUTSIDE);
    due.is("REST 0", x.plan(0, REST, 0), OUTSIDE);
    due.is("REST 101", x.plan(0, REST, 101), OUTSIDE);
    due.is("no acts", x.ofCrew(0, 3), 0);
    due.is("REST 100", x.plan(0, REST, 100), 1);
    due.is("REST 1", x.plan(0, REST, 1), 2);
    due.is("GO 5", x.plan(0, GO, 5), 3);
    due.is("CUT with any n", x.plan(0, CUT, -7), 4);
    due.is("DOUSE with any n", x.plan(0, DOUSE, 999), 5);
    due.is("FILL with any n", x.plan(0, FILL, Integer.MIN_VALUE), 6);
    due.is("BACKFIRE with any n", x.plan(0, BACKFIRE, 6), 7);
    due.is("kind at hand", x.ofCrew(0, 2), REST);
    x.light(3, 0);
    x.step(1);
    due.is("LOST", x.plan(1, CUT, 0), STATE);
    due.is("LOST, kind 6", x.plan(1, 6, 0), OUTSIDE);
    due.is("LOST, GO to 6", x.plan(1, GO, 6), UNKNOWN);
  }

  private static void planIsFull() {
    HeathFire x = road(2, 2);
    x.crew(0);
    for (int i = 1; i <= 12; i++) {
      due.is("act " + i, x.plan(0, REST, 1), i);
    }
    due.is("act 13", x.plan(0, REST, 1), FULL);
    due.is("act 13, kind 6", x.plan(0, 6, 1), OUTSIDE);
    due.is("acts", x.ofCrew(0, 3), 12);
    x.step(1);
    due.is("one over", x.plan(0, CUT, 1), 12);
    x.step(11);
    due.is("the last at hand", x.ofCrew(0, 2), CUT);
  }

  private static void haltAnswers() {
    HeathFire x = Make.even(2, 2, PEAT, 30, 90);
    due.is("no crew", x.halt(0), UNKNOWN);
    x.crew(0);
    x.crew(1);
    due.is("halt(-1)", x.halt(-1), UNKNOWN);
    due.is("halt(2)", x.halt(2), UNKNOWN);
    due.is("no plan", x.halt(0), 0);
    x.plan(0, REST, 5);
    x.plan(0, CUT, 0);
    due.is("two acts", x.halt(0), 2);
    due.is("none at hand", x.ofCrew(0, 2), NONE);
    due.is("none left", x.ofCrew(0, 3), 0);
    x.plan(1, REST, 9);
    x.light(1, 0);
    x.step(1);
    due.is("LOST", x.halt(1), STATE);
    due.is("not LOST", x.halt(0), 0);
  }

  private static void ofCrewRefuses() {
    HeathFire x = road(2, 2);
    due.is("no crew", x.ofCrew(0, 9), UNKNOWN);
    x.crew(0);
    due.is("crew -1", x.ofCrew(-1, 0), UNKNOWN);
    due.is("crew 1", x.ofCrew(1, 0), UNKNOWN);
    due.is("what -1", x.ofCrew(0, -1), OUTSIDE);
    due.is("what 8", x.ofCrew(0, 8), OUTSIDE);
  }

  private static void rests() {
    HeathFire x = road(2, 2);
    x.crew(0);
    x.plan(0, REST, 2);
    x.plan(0, REST, 3);
    x.plan(0, GO, 3);
    int[] acts = {3, 2, 2, 2, 1, 0};
    int[] at = {0, 0, 0, 0, 0, 3};
    for (int i = 0; i < acts.length; i++) {
      x.step(1);
      due.is("acts behind step " + i, x.ofCrew(0, 3), acts[i]);
      due.is("cell behind step " + i, x.ofCrew(0, 0), at[i]);
    }
  }

  private static void goes() {
    HeathFire x = road(3, 5);
    x.crew(0);
    x.plan(0, GO, 14);
    x.plan(0, GO, 11);
    x.plan(0, GO, 0);
    int[] at = {6, 12, 13, 14, 13, 12, 11, 5, 0};
    int[] acts = {3, 3, 3, 2, 2, 2, 1, 1, 0};
    for (int i = 0; i < at.length; i++) {
      x.step(1);
      due.is("cell behind step " + i, x.ofCrew(0, 0), at[i]);
      due.is("acts behind step " + i, x.ofCrew(0, 3), acts[i]);
    }
    due.is("never HELD UP", x.ofCrew(0, 5), 0);
  }

  private static void goesWhereItIs() {
    HeathFire x = road(2, 2);
    x.crew(3);
    x.cell(3, 0, 0, 0, 0);
    x.plan(0, GO, 3);
    x.plan(0, GO, 0);
    x.step(1);
    due.crew("over at once", x, 0, 3, 10, GO, 1, 0, 0, 0, 0);
    x.step(1);
    due.crew("gone on", x, 0, 0, 10, NONE, 0, 0, 0, 0, 0);
  }

  private static void isHeldUp() {
    HeathFire x = Make.even(3, 3, PEAT, 50, 100);
    x.cell(4, 0, 0, 0, 0);
    x.light(1, 0);
    x.crew(0);
    x.plan(0, GO, 8);
    x.plan(0, GO, 2);
    x.plan(0, GO, 6);
    x.step(1);
    due.crew("by WATER", x, 0, 0, 10, GO, 2, 0, 1, 0, 0);
    x.step(1);
    due.crew("by fire", x, 0, 0, 10, GO, 1, 0, 2, 0, 0);
    x.step(1);
    due.crew("gone on", x, 0, 3, 10, GO, 1, 0, 2, 0, 0);
    x.step(1);
    due.crew("there", x, 0, 6, 10, NONE, 0, 0, 2, 0, 0);
  }

  private static void cuts() {
    HeathFire x = Make.even(2, 2, GRASS, 50, 20);
    x.crew(1);
    x.plan(0, CUT, 0);
    x.step(1);
    due.crew("begun", x, 0, 1, 10, CUT, 1, 0, 0, 0, 0);
    due.is("FUEL still", x.about(1, 1), 50);
    x.step(1);
    due.crew("over", x, 0, 1, 10, NONE, 0, 0, 0, 1, 0);
    due.is("STATE", x.about(1, 0), 4);
    due.is("FUEL", x.about(1, 1), 0);
    due.is("DAMP", x.about(1, 2), 20);
    due.is("CUT cells", x.many(4), 1);
    due.is("nothing burnt", x.told(10), 0);
    x.light(1, 2);
    x.step(1);
    due.is("CUT does not burn", x.about(1, 0), 4);
  }

  private static void cutsNothing() {
    HeathFire x = Make.even(2, 2, PEAT, 50, 90);
    x.cell(0, ROAD, 0, 0, 0);
    x.crew(0);
    x.crew(1);
    x.plan(0, CUT, 0);
    x.plan(0, REST, 9);
    x.plan(1, CUT, 0);
    x.plan(1, CUT, 0);
    x.step(1);
    due.crew("ROAD", x, 0, 0, 10, REST, 1, 0, 0, 0, 0);
    x.step(1);
    due.crew("first", x, 1, 1, 10, CUT, 1, 0, 0, 1, 0);
    x.step(1);
    due.crew("CUT before", x, 1, 1, 10, NONE, 0, 0, 0, 1, 0);
  }

  private static void cutBegunAnewTakesTwoSteps() {
    HeathFire x = Make.even(2, 2, GRASS, 50, 20);
    x.crew(1);
    x.plan(0, CUT, 0);
    x.step(1);
    x.halt(0);
    x.plan(0, CUT, 0);
    x.step(1);
    due.is("FUEL still", x.about(1, 1), 50);
    x.step(1);
    due.is("CUT", x.about(1, 0), 4);
  }

  /** All that is ALIGHT about the crew, at 4, is as hot as the rest; but in the second grid 7 and 8, side by side, are hotter. */
  private static void douses() {
    HeathFire x = Make.even(3, 3, PEAT, 100, 100);
    x.cell(4, ROAD, 0, 0, 10);
    x.crew(4);
    for (int i = 0; i < 5; i++) {
      x.plan(0, DOUSE, 0);
    }
    x.light(1, 1);
    x.light(3, 1);
    x.light(6, 1);
    x.light(7, 1);
    x.step(1);
    due.crew("nothing to douse", x, 0, 4, 10, DOUSE, 4, 0, 0, 0, 0);
    x.step(1);
    due.cells("1 of four without HEAT", x, 0, 1, 5, 1, 2, 0, 1, 2, 2, 1);
    due.cells("1 of four without HEAT", x, 3, 2, 2, 0, 4, 6, 2, 4, 4, 2);
    due.crew("1 of four without HEAT", x, 0, 4, 9, DOUSE, 3, 0, 0, 0, 1);
    x.step(1);
    due.cells("3 of 3, 6, 7", x, 0, 1, 5, 1, 5, 0, 1, 2, 2, 1);
    due.is("HEAT 0, then what was given", x.about(3, 3), 4);
    due.is("FUEL stays", x.about(3, 1), 98);
    x.step(1);
    due.cells("6 of 6, 7", x, 0, 1, 5, 1, 5, 0, 1, 5, 2, 1);
    x.step(1);
    due.cells("7", x, 0, 1, 5, 1, 5, 0, 1, 5, 5, 1);
    due.crew("all", x, 0, 4, 6, NONE, 0, 0, 0, 0, 4);
    due.is("DOUSED cells", x.many(5), 4);

    HeathFire y = Make.even(3, 3, PEAT, 100, 100);
    y.cell(4, ROAD, 0, 0, 0);
    y.light(0, 0);
    y.light(7, 0);
    y.light(8, 0);
    y.step(1);
    y.crew(4);
    y.plan(0, DOUSE, 0);
    y.step(1);
    due.cells("the hottest, not the first", y, 0, 2, 1, 1, 1, 0, 1, 1, 5, 2);
  }

  private static void dousesTheLeastNumber() {
    HeathFire x = Make.even(2, 3, PEAT, 100, 100);
    x.light(0, 0);
    x.light(1, 0);
    x.crew(3);
    x.plan(0, DOUSE, 0);
    x.step(1);
    due.cells("0 of 0, 1", x, 0, 5, 2, 1, 1, 1, 1);
  }

  private static void dousesWithoutWater() {
    HeathFire x = Make.even(3, 6, PEAT, 200, 100);
    int[] first = {0, 1, 2, 6, 8, 12, 13, 14};
    int[] then = {3, 4, 5, 9};
    for (int n : first) {
      x.light(n, 0);
    }
    for (int n : then) {
      x.light(n, 20);
    }
    x.crew(7);
    for (int i = 0; i < 8; i++) {
      x.plan(0, DOUSE, 0);
    }
    x.plan(0, GO, 10);
    x.step(20);
    due.crew("eight DOUSED", x, 0, 10, 2, NONE, 0, 0, 0, 0, 8);
    for (int i = 0; i < 4; i++) {
      x.plan(0, DOUSE, 0);
    }
    x.step(2);
    due.crew("ten DOUSED", x, 0, 10, 0, DOUSE, 2, 0, 0, 0, 10);
    x.step(1);
    due.crew("no WATER, just over", x, 0, 10, 0, DOUSE, 1, 0, 0, 0, 10);
    due.is("two are ALIGHT still", x.many(2), 2);
  }

  private static void fills() {
    HeathFire x = road(3, 3);
    x.cell(8, 0, 0, 0, 0);
    x.crew(0);
    x.crew(4);
    x.plan(0, FILL, 0);
    x.plan(1, FILL, 0);
    x.step(1);
    due.crew("no WATER about it", x, 0, 0, 10, NONE, 0, 0, 0, 0, 0);
    due.crew("WATER about it", x, 1, 4, 40, NONE, 0, 0, 0, 0, 0);
    for (int n = 0; n < 9; n++) {
      if (n != 4) {
        HeathFire y = road(3, 3);
        y.cell(n, 0, 0, 0, 0);
        y.crew(4);
        y.plan(0, FILL, 0);
        y.step(1);
        due.is("WATER at " + n, y.ofCrew(0, 1), 40);
      }
    }
  }

  private static void fillsOnItsOwnCell() {
    HeathFire x = road(3, 3);
    x.crew(4);
    x.cell(4, 0, 0, 0, 0);
    x.plan(0, FILL, 0);
    x.step(1);
    due.crew("own cell", x, 0, 4, 40, NONE, 0, 0, 0, 0, 0);
  }

  private static void backfires() {
    HeathFire x = Make.even(2, 2, PEAT, 50, 90);
    x.cell(0, ROAD, 0, 0, 0);
    x.crew(0);
    x.crew(1);
    x.plan(0, BACKFIRE, 0);
    x.plan(0, REST, 5);
    x.plan(1, REST, 1);
    x.plan(1, BACKFIRE, 0);
    x.plan(1, REST, 5);
    x.step(2);
    due.crew("on ROAD", x, 0, 0, 10, REST, 1, 0, 0, 0, 0);
    due.is("ROAD does not burn", x.about(0, 0), 0);
    due.crew("on PEAT", x, 1, 1, 10, NONE, 0, 1, 0, 0, 0);
    due.is("ALIGHT", x.about(1, 0), 2);
    due.is("ARRIVAL", x.about(1, 7), 1);
    due.is("it burnt in the same step", x.about(1, 1), 48);
  }

  private static void isLost() {
    HeathFire x = Make.even(2, 2, PEAT, 2, 90);
    x.crew(1);
    x.crew(2);
    x.plan(0, REST, 1);
    x.plan(0, GO, 3);
    x.light(1, 1);
    x.light(2, 0);
    x.step(1);
    due.crew("without a plan", x, 1, 2, 10, NONE, 0, 1, 0, 0, 0);
    x.plan(0, REST, 9);
    x.halt(0);
    x.plan(0, REST, 9);
    x.step(1);
    due.crew("at rest", x, 0, 1, 10, NONE, 0, 1, 0, 0, 0);
    due.is("burnt out", x.about(1, 0), 3);
    x.step(5);
    due.crew("for ever", x, 0, 1, 10, NONE, 0, 1, 0, 0, 0);
    due.is("plan", x.plan(0, REST, 1), STATE);
    due.is("it still counts", x.told(4), 2);
  }

  private static void goesOutOfTheFire() {
    HeathFire x = Make.even(2, 3, PEAT, 50, 90);
    x.light(0, 0);
    x.crew(0);
    x.plan(0, GO, 2);
    x.step(1);
    due.crew("away in time", x, 0, 1, 10, GO, 1, 0, 0, 0, 0);
    HeathFire y = new HeathFire();
    y.cell(0, GRASS, 50, 0, 0);
    y.cell(1, GRASS, 50, 0, 0);
    y.weather(0, 2, 4, 0);
    y.light(0, 0);
    y.crew(1);
    y.step(1);
    due.is("caught", y.about(1, 0), 2);
    due.is("not LOST in the step that its cell caught in", y.ofCrew(0, 4), 0);
    y.step(1);
    due.is("but in the next", y.ofCrew(0, 4), 1);
  }

  private static void oneBehindTheOther() {
    HeathFire x = Make.even(2, 3, PEAT, 50, 90);
    x.crew(0);
    x.crew(1);
    x.crew(4);
    x.plan(0, BACKFIRE, 0);
    x.plan(1, DOUSE, 0);
    x.plan(2, DOUSE, 0);
    x.light(5, 0);
    x.step(1);
    due.cells("each sees what the ones ahead did", x, 0, 5, 1, 1, 1, 1, 5);
    due.is("saved by the next", x.ofCrew(0, 4), 0);
    due.is("cell 0 by crew 1", x.ofCrew(1, 7), 1);
    due.is("cell 5 by crew 2", x.ofCrew(2, 7), 1);
    due.cells("it became ALIGHT though", x, 7, 0, NONE, NONE, NONE, NONE, 0);
    due.is("nothing burnt", x.told(10), 0);
  }
}
