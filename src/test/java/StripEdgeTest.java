/** Text 4 of the document, strips, and promises 18 to 20: each edge that it names has a test of its own. */
public final class StripEdgeTest {
  private static final int UNKNOWN = HeathFire.UNKNOWN, OUTSIDE = HeathFire.OUTSIDE;
  private static final int WATER = 0, GRASS = 1, WOOD = 3, PEAT = 4;
  private static final Due due = new Due("StripEdgeTest");

  public static void main(String[] args) {
    stripsOfAllRows();
    stripsRefused();
    stripsAnyTime();
    stripAtItsEdges();
    balancedOnAndOff();
    balancedStays();
    workOfAllAndOfNone();
    workAsBURNINGBegins();
    workOfNewOnes();
    heatAtASeam();
    heatAtTheGridsEnds();
    heatOfSeveralCells();
    emberOverSeveralSeams();
    emberWithinAStrip();
    emberOutside();
    smokeAtASeam();
    oneOrTwoStripsStay();
    twiceTheMean();
    theMeanIsCut();
    splitOfTwoRowsAndOfThree();
    oneRowIsNotSplit();
    upToEightStrips();
    splitAheadOfJoin();
    joinWhereNoSplitCanBe();
    halfOfTheMean();
    idleBesideBusyIsNotJoined();
    onlyTheFirstSuchAreJoined();
    onlyIfBALANCED();
    due.end();
  }

  /** Damp grass on 2 columns, which burns where it is lit, and does not catch. */
  private static HeathFire damp(int rows, int fuel, int strips) {
    HeathFire x = Make.even(rows, 2, GRASS, fuel, 100);
    x.strips(strips);
    x.balanced(true);
    return x;
  }

  private static void lightSome(HeathFire x, int from, int many, int step) {
    for (int n = from; n < from + many; n++) {
      x.light(n, step);
    }
  }

  private static void stripsOfAllRows() {
    for (int rows = 2; rows <= 16; rows++) {
      for (int n = 1; n <= Math.min(8, rows); n++) {
        HeathFire x = new HeathFire();
        x.grid(rows, 2);
        String name = rows + " rows, strips(" + n + ")";
        due.is(name, x.strips(n), (rows + n - 1) / n);
        due.is(name + " STRIPS", x.told(5), n);
        int row = 0;
        for (int i = 0; i < n; i++) {
          due.is(name + " first row of " + i, x.strip(i, 0), row);
          row += i < rows % n ? rows / n + 1 : rows / n;
          due.is(name + " last row of " + i, x.strip(i, 1), row - 1);
        }
        due.is(name + " all rows", row, rows);
        due.is(name + " no more", x.strip(n, 0), UNKNOWN);
      }
    }
  }

  private static void stripsRefused() {
    for (int rows = 2; rows <= 16; rows++) {
      HeathFire x = new HeathFire();
      x.grid(rows, 2);
      x.strips(2);
      due.is(rows + " rows, strips(0)", x.strips(0), OUTSIDE);
      due.is(rows + " rows, strips(-1)", x.strips(-1), OUTSIDE);
      due.is(rows + " rows, one too many", x.strips(Math.min(8, rows) + 1), OUTSIDE);
      due.is(rows + " rows, strips(9)", x.strips(9), OUTSIDE);
      due.is(rows + " rows, strips(rows and 1)", x.strips(rows + 1), OUTSIDE);
      due.is(rows + " rows, two STRIPS still", x.told(5), 2);
    }
  }

  private static void stripsAnyTime() {
    HeathFire x = damp(8, 100, 4);
    x.step(1);
    due.is("behind a STEP", x.strips(8), 1);
    due.is("STRIPS", x.told(5), 8);
    due.is("they are no split", x.told(12), 0);
    due.is("fewer", x.strips(2), 4);
    due.is("they are no join", x.told(13), 0);
    due.strips("two", x, 0, 3, 0, 4, 7, 0);
    x.grid(3, 2);
    due.is("grid() behind a STEP is refused", x.told(5), 2);
    x.clear();
    due.strips("clear(): one", x, 0, 7, 0);
  }

  private static void stripAtItsEdges() {
    HeathFire x = damp(16, 100, 8);
    due.is("strip(-1, 0)", x.strip(-1, 0), UNKNOWN);
    due.is("strip(8, 0)", x.strip(8, 0), UNKNOWN);
    due.is("strip(8, 3)", x.strip(8, 3), UNKNOWN);
    due.is("strip(7, 3)", x.strip(7, 3), OUTSIDE);
    due.is("strip(7, -1)", x.strip(7, -1), OUTSIDE);
    due.is("strip(7, 0)", x.strip(7, 0), 14);
    due.is("strip(7, 1)", x.strip(7, 1), 15);
    due.is("strip(7, 2)", x.strip(7, 2), 0);
    x.strips(7);
    due.is("strip(7, 0) of 7", x.strip(7, 0), UNKNOWN);
  }

  private static void balancedOnAndOff() {
    HeathFire x = new HeathFire();
    boolean[] on = {false, true, true, false, false, true};
    int was = 0;
    for (boolean b : on) {
      due.is("balanced(" + b + ")", x.balanced(b), was);
      was = b ? 1 : 0;
    }
  }

  private static void balancedStays() {
    HeathFire x = new HeathFire();
    x.balanced(true);
    x.keep(0);
    x.step(1);
    due.is("behind a STEP", x.balanced(true), 1);
    x.clear();
    due.is("behind clear()", x.balanced(true), 1);
    x.grid(3, 3);
    due.is("behind grid()", x.balanced(true), 1);
    x.keep(0);
    x.balanced(false);
    x.back(0);
    due.is("behind back()", x.balanced(true), 0);
  }

  private static void workOfAllAndOfNone() {
    HeathFire x = damp(8, 100, 4);
    x.balanced(false);
    lightSome(x, 0, 4, 0);
    due.strips("without a STEP", x, 0, 1, 0, 2, 3, 0, 4, 5, 0, 6, 7, 0);
    x.step(0);
    due.is("step(0) is no STEP", x.strip(0, 2), 0);
    x.step(1);
    due.strips("4 times 4 and 4", x, 0, 1, 20, 2, 3, 4, 4, 5, 4, 6, 7, 4);
    HeathFire y = new HeathFire();
    y.grid(16, 16);
    y.step(1);
    due.strips("the greatest grid", y, 0, 15, 256);
  }

  /** What is doused ahead of BURNING does not count, what burns to its end does, what catches in the STEP does not. */
  private static void workAsBURNINGBegins() {
    HeathFire x = Make.even(2, 4, GRASS, 12, 0);
    x.cell(3, PEAT, 100, 100, 10);
    x.cell(7, PEAT, 100, 100, 10);
    x.weather(0, 2, 4, 0);
    x.crew(7);
    x.plan(0, 3, 0);
    x.light(0, 0);
    x.light(3, 0);
    x.step(1);
    due.is("0 is BURNT", x.about(0, 0), 3);
    due.is("1 has caught", x.about(1, 0), 2);
    due.is("3 is DOUSED", x.about(3, 0), 5);
    due.strips("one of 8", x, 0, 1, 12);
  }

  private static void workOfNewOnes() {
    HeathFire x = damp(8, 100, 4);
    x.balanced(false);
    x.step(1);
    x.strips(4);
    due.strips("strips() makes them new", x, 0, 1, 0, 2, 3, 0, 4, 5, 0, 6, 7, 0);
    x.step(1);
    due.is("a STEP on", x.strip(3, 2), 4);
    x.keep(0);
    x.strips(2);
    x.back(0);
    due.strips("back() brings the old ones", x, 0, 1, 4, 2, 3, 4, 4, 5, 4, 6, 7, 4);
  }

  private static int passed(int rows, int columns, int strips, int lit) {
    HeathFire x = Make.even(rows, columns, GRASS, 100, 100);
    x.strips(strips);
    x.light(lit, 0);
    x.step(1);
    return x.told(11);
  }

  private static void heatAtASeam() {
    due.is("above it, 3 below", passed(4, 3, 2, 4), 3);
    due.is("below it, 3 above", passed(4, 3, 2, 7), 3);
    due.is("at the west, 2", passed(4, 3, 2, 3), 2);
    due.is("at the east, 2", passed(4, 3, 2, 5), 2);
    due.is("a row off, none", passed(4, 3, 2, 1), 0);
    due.is("one STRIP, none", passed(4, 3, 1, 4), 0);
    due.is("a STRIP of one row, 6", passed(4, 3, 4, 4), 6);
  }

  private static void heatAtTheGridsEnds() {
    due.is("first row", passed(4, 3, 4, 1), 3);
    due.is("last row", passed(4, 3, 4, 10), 3);
    due.is("first cell", passed(4, 3, 4, 0), 2);
    due.is("last cell", passed(4, 3, 4, 11), 2);
  }

  private static void heatOfSeveralCells() {
    HeathFire x = Make.even(4, 3, GRASS, 100, 100);
    x.strips(2);
    x.light(3, 0);
    x.light(4, 0);
    x.light(7, 0);
    x.step(1);
    due.is("2 and 3 and 3", x.told(11), 8);
    x.step(1);
    due.is("once more in each STEP", x.told(11), 16);
    x.strips(1);
    x.step(1);
    due.is("no seam, no more", x.told(11), 16);
  }

  /** A wood in column 0 that throws an EMBER 2 cells off along the column in STEP 0: SEED 3 of cell 4, 17 of cell 12. */
  private static HeathFire wood(int n, int wind, int seed, int strips) {
    HeathFire x = new HeathFire();
    x.grid(16, 2);
    x.cell(n, WOOD, 100, 0, 0);
    x.seed(seed);
    x.weather(0, wind, 2, 0);
    x.strips(strips);
    x.light(n, 0);
    x.step(1);
    return x;
  }

  /** Cell 4 is row 2; with 8 STRIPS row 1 lies above the seam, row 4 below the next one. HEAT goes to 2 cells above. */
  private static void emberOverSeveralSeams() {
    HeathFire x = wood(4, 4, 3, 8);
    due.is("EMBERS", x.told(9), 1);
    due.is("HEAT of row 4", x.about(8, 3), 40);
    due.is("2 by HEAT, 1 by the EMBER", x.told(11), 3);
    HeathFire y = wood(4, 0, 3, 8);
    due.is("HEAT of row 0", y.about(0, 3), 40);
    due.is("2 by HEAT, 1 by the EMBER, 1 by SMOKE", y.told(11), 4);
  }

  /** Cell 12 is row 6; of 4 STRIPS the second one has the rows 4 to 7, so row 4 is its first, row 8 is in the next. */
  private static void emberWithinAStrip() {
    HeathFire x = wood(12, 0, 17, 4);
    due.is("HEAT of row 4", x.about(8, 3), 40);
    due.is("nothing is PASSED", x.told(11), 0);
    HeathFire y = wood(12, 4, 17, 4);
    due.is("HEAT of row 8", y.about(16, 3), 40);
    due.is("the EMBER alone", y.told(11), 1);
  }

  private static void emberOutside() {
    HeathFire x = new HeathFire();
    x.grid(2, 2);
    x.cell(0, WOOD, 100, 0, 0);
    x.seed(49);
    x.weather(0, 4, 2, 0);
    x.strips(2);
    x.light(0, 0);
    x.step(1);
    due.is("none is thrown", x.told(9), 0);
    due.is("2 by HEAT, 1 by SMOKE", x.told(11), 3);
  }

  /** GRASS with FUEL 2 and 1: half of its SMOKE is 1, or 0, which is not PASSED. HEAT to the south is 2 cells' each. */
  private static void smokeAtASeam() {
    for (int fuel = 1; fuel <= 2; fuel++) {
      HeathFire x = new HeathFire();
      x.cell(0, GRASS, fuel, 0, 0);
      x.weather(0, 4, 1, 0);
      x.strips(2);
      x.light(0, 0);
      x.step(1);
      due.is("SMOKE to the south of FUEL " + fuel, x.about(2, 4), fuel / 2);
      due.is("PASSED of FUEL " + fuel, x.told(11), 2 + fuel / 2);
    }
    HeathFire y = new HeathFire();
    y.cell(2, GRASS, 12, 0, 0);
    y.weather(0, 4, 1, 0);
    y.strips(2);
    y.light(2, 0);
    y.step(1);
    due.is("outside is no STRIP", y.told(11), 2);
    HeathFire z = new HeathFire();
    z.cell(0, GRASS, 12, 0, 0);
    z.weather(0, 2, 1, 0);
    z.strips(2);
    z.light(0, 0);
    z.step(1);
    due.is("along the row", z.told(11), 2);
  }

  private static void oneOrTwoStripsStay() {
    for (int strips = 1; strips <= 2; strips++) {
      HeathFire x = damp(10, 200, strips);
      lightSome(x, 0, 10, 0);
      x.step(5);
      due.is(strips + " STRIPS", x.told(5), strips);
      due.is("split", x.told(12), 0);
      due.is("joined", x.told(13), 0);
    }
  }

  /** Five STRIPS of 2 rows have 4 each; one with lit cells has 4 more for each. */
  private static void twiceTheMean() {
    HeathFire x = damp(10, 100, 5);
    lightSome(x, 8, 2, 0);
    x.step(1);
    due.strips("12 above twice 5", x, 0, 1, 4, 2, 3, 4, 4, 4, 0, 5, 5, 0, 6, 7, 4, 8, 9, 4);
    HeathFire y = damp(10, 100, 5);
    lightSome(y, 8, 2, 0);
    lightSome(y, 0, 2, 0);
    y.step(1);
    due.strips("12 is not above twice 7", y, 0, 1, 12, 2, 3, 4, 4, 5, 12, 6, 7, 4, 8, 9, 4);
    HeathFire z = damp(8, 100, 4);
    lightSome(z, 0, 2, 0);
    z.step(1);
    due.strips("12 is twice 6", z, 0, 1, 12, 2, 3, 4, 4, 5, 4, 6, 7, 4);
  }

  /** 9 rows of 3 in four STRIPS: 17 and 6, 6, 6 are 35; by 4, that is 8, cut. */
  private static void theMeanIsCut() {
    HeathFire x = Make.even(9, 3, GRASS, 100, 100);
    x.strips(4);
    x.balanced(true);
    lightSome(x, 0, 2, 0);
    x.step(1);
    due.strips("17 above twice 8", x, 0, 0, 0, 1, 2, 0, 3, 4, 6, 5, 6, 6, 7, 8, 6);
    HeathFire y = Make.even(9, 3, GRASS, 100, 100);
    y.strips(4);
    y.balanced(true);
    lightSome(y, 0, 2, 0);
    lightSome(y, 26, 1, 0);
    y.step(1);
    due.strips("17 not above twice 9", y, 0, 2, 17, 3, 4, 6, 5, 6, 6, 7, 8, 10);
  }

  private static void splitOfTwoRowsAndOfThree() {
    HeathFire x = damp(8, 100, 4);
    lightSome(x, 12, 4, 0);
    x.step(1);
    due.strips("1 and 1", x, 0, 1, 4, 2, 3, 4, 4, 5, 4, 6, 6, 0, 7, 7, 0);
    HeathFire y = damp(12, 100, 4);
    lightSome(y, 0, 6, 0);
    y.step(1);
    due.strips("1 and 2", y, 0, 0, 0, 1, 2, 0, 3, 5, 6, 6, 8, 6, 9, 11, 6);
    HeathFire z = damp(16, 100, 4);
    lightSome(z, 8, 8, 0);
    z.step(1);
    due.strips("2 and 2", z, 0, 3, 8, 4, 5, 0, 6, 7, 0, 8, 11, 8, 12, 15, 8);
  }

  /** Eight STRIPS but one: 7 of one row; 10 is above twice 3, but nothing is split or, with 4 above 1, joined. */
  private static void oneRowIsNotSplit() {
    HeathFire x = damp(7, 100, 7);
    lightSome(x, 6, 2, 0);
    x.step(1);
    due.strips("one row", x, 0, 0, 2, 1, 1, 2, 2, 2, 2, 3, 3, 10, 4, 4, 2, 5, 5, 2, 6, 6, 2);
    due.is("split", x.told(12), 0);
  }

  private static void upToEightStrips() {
    HeathFire x = damp(14, 100, 7);
    lightSome(x, 0, 4, 0);
    lightSome(x, 8, 4, 1);
    x.step(1);
    due.is("20 above twice 6: the eighth", x.told(5), 8);
    due.is("split", x.told(12), 1);
    x.step(1);
    due.strips("20 above twice 7: no ninth", x, 0, 0, 10, 1, 1, 10, 2, 3, 4, 4, 5, 20, 6, 7, 4, 8, 9, 4, 10, 11, 4,
        12, 13, 4);
    due.is("split still", x.told(12), 1);
  }

  /** As StripTest.joinsTheFirst, but in STEP 1 the works are 4, 4, 40, 28, 16: 40 above twice 18, and 8 below 9. */
  private static void splitAheadOfJoin() {
    HeathFire x = damp(16, 12, 4);
    lightSome(x, 0, 5, 0);
    lightSome(x, 8, 8, 1);
    lightSome(x, 16, 5, 1);
    lightSome(x, 24, 2, 1);
    x.step(1);
    due.strips("the first is split", x, 0, 1, 0, 2, 3, 0, 4, 7, 8, 8, 11, 8, 12, 15, 8);
    x.step(1);
    due.strips("split, not joined", x, 0, 1, 4, 2, 3, 4, 4, 5, 0, 6, 7, 0, 8, 11, 28, 12, 15, 16);
    due.is("split", x.told(12), 2);
    due.is("joined", x.told(13), 0);
  }

  /**
   * A fire goes from the north to the south; in STEP 10 there are eight STRIPS with 3, 3, 15, 15, 45, 33, 9, 9, which are
   * 132, by 8 that is 16: 45 is above twice that, and has 3 rows, but there are eight; 3 and 3 are below 8.
   */
  private static void joinWhereNoSplitCanBe() {
    HeathFire x = Make.even(16, 3, GRASS, 84, 0);
    x.weather(0, 2, 2, 0);
    x.light(0, 0);
    x.strips(5);
    x.balanced(true);
    x.step(10);
    due.strips("eight", x, 0, 0, 7, 1, 1, 11, 2, 2, 15, 3, 3, 15, 4, 6, 45, 7, 9, 21, 10, 12, 9, 13, 15, 9);
    x.step(1);
    due.strips("joined", x, 0, 1, 0, 2, 2, 15, 3, 3, 15, 4, 6, 45, 7, 9, 33, 10, 12, 9, 13, 15, 9);
    due.is("split", x.told(12), 3);
    due.is("joined", x.told(13), 1);
    x.step(1);
    due.strips("so there is room: 45 above twice 18", x, 0, 1, 6, 2, 2, 3, 3, 3, 15, 4, 4, 0, 5, 6, 0, 7, 9, 45, 10, 12, 9,
        13, 15, 9);
  }

  /** Strips of 2, 2, 1, 1, 1, 1, 1 rows: 20, 20 and 10 where all is lit, 2 where nothing is. */
  private static void halfOfTheMean() {
    HeathFire x = damp(9, 100, 7);
    lightSome(x, 0, 14, 0);
    x.step(1);
    due.is("4 below 10 by 2", x.told(13), 1);
    HeathFire y = damp(9, 100, 7);
    lightSome(y, 0, 12, 0);
    y.step(1);
    due.is("4 not below 9 by 2", y.told(13), 0);
    HeathFire z = damp(9, 100, 7);
    lightSome(z, 0, 15, 0);
    z.step(1);
    due.is("8 not below 11 by 2", z.told(13), 0);
  }

  /** WATER in the rows 6 and 7, all else burns: 20 seven times and 4 are 144, by 8 that is 18; 4 and 20 are not below 9. */
  private static void idleBesideBusyIsNotJoined() {
    HeathFire x = Make.even(16, 2, GRASS, 200, 0);
    for (int n = 12; n < 16; n++) {
      x.cell(n, WATER, 0, 0, 10);
    }
    lightSome(x, 0, 12, 0);
    lightSome(x, 16, 8, 0);
    x.strips(8);
    x.step(6);
    due.is("all burns", x.many(2), 28);
    x.balanced(true);
    x.step(1);
    due.strips("nothing is joined", x, 0, 1, 20, 2, 3, 20, 4, 5, 20, 6, 7, 4, 8, 9, 20, 10, 11, 20, 12, 13, 20, 14, 15, 20);
  }

  /** In STEP 9 there are 10, 16, 2, 2, 2, 30, 20, 20, which are 102, by 8 that is 12: 2 and 2 are below 6, twice. */
  private static void onlyTheFirstSuchAreJoined() {
    HeathFire x = Make.even(13, 2, GRASS, 84, 0);
    x.light(6, 0);
    x.light(8, 1);
    x.light(11, 1);
    x.light(2, 2);
    x.strips(5);
    x.balanced(true);
    x.step(9);
    due.strips("eight", x, 0, 0, 10, 1, 2, 20, 3, 3, 6, 4, 4, 6, 5, 5, 6, 6, 8, 30, 9, 10, 20, 11, 12, 12);
    x.step(1);
    due.strips("rows 3 and 4", x, 0, 0, 10, 1, 2, 16, 3, 4, 0, 5, 5, 2, 6, 8, 30, 9, 10, 20, 11, 12, 20);
    due.is("joined", x.told(13), 1);
    x.step(1);
    due.strips("4 and 2 are not below 6", x, 0, 0, 10, 1, 2, 8, 3, 4, 4, 5, 5, 2, 6, 8, 22, 9, 10, 20, 11, 12, 20);
  }

  private static void onlyIfBALANCED() {
    HeathFire x = damp(14, 100, 7);
    x.balanced(false);
    lightSome(x, 0, 4, 0);
    x.step(2);
    due.is("off", x.told(5), 7);
    x.balanced(true);
    due.is("on, ahead of a STEP", x.told(5), 7);
    x.step(0);
    due.is("step(0) is no STEP", x.told(5), 7);
    x.step(1);
    due.is("on, behind a STEP", x.told(5), 8);
  }
}
