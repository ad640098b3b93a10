/** Grids that several tests begin with. */
final class Make {
  private static final int PEAT = 4, ROAD = 5;

  /** Of states(): the cell that has a STATE, by the STATE. */
  static final int[] CELL_OF_STATE = {0, 2, 4, 6, 8, 10};

  private Make() {
  }

  /** All cells alike, flat and of height 10, so that a test can make hills and dales in it. */
  static HeathFire even(int rows, int columns, int ground, int fuel, int damp) {
    HeathFire x = new HeathFire();
    x.grid(rows, columns);
    for (int n = 0; n < rows * columns; n++) {
      x.cell(n, ground, fuel, damp, 10);
    }
    return x;
  }

  /**
   * 2 STEPS are done, and there is a cell of each STATE in the first row, with ROAD between them and in the second row:
   * 6 has burnt in STEP 0, 4 is ALIGHT from STEP 1 on, 8 was cut by crew 0, 10 lit in STEP 1 and doused by crew 1 on 11.
   * All PEAT is so damp that nothing catches.
   */
  static HeathFire states() {
    HeathFire x = even(2, 12, ROAD, 0, 90);
    x.cell(0, PEAT, 0, 90, 10);
    x.cell(2, PEAT, 100, 90, 10);
    x.cell(4, PEAT, 100, 90, 10);
    x.cell(6, PEAT, 2, 90, 10);
    x.cell(8, PEAT, 100, 90, 10);
    x.cell(10, PEAT, 100, 90, 10);
    x.light(6, 0);
    x.light(4, 1);
    x.light(10, 1);
    x.crew(8);
    x.plan(0, 2, 0);
    x.crew(11);
    x.plan(1, 0, 1);
    x.plan(1, 3, 0);
    x.step(2);
    return x;
  }
}
