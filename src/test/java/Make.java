/** Grids that several tests begin with. */
final class Make {
  private Make() {
  }

  /** All cells alike, flat and of height 10, so that a test can make hills and dales in it. */
  static HeathFire even(int rows, int columns, int ground, int fuel, int damp) {
    HeathFire x = new HeathFire();
    x.grid(rows, columns);
    for (int n = 0; n < rows * columns; n++) {
      x.cell(n, ground, fuel, damp, 10);
    }
    return x;
  }
}
