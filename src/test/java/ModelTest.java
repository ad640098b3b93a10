import java.util.Random;

/** Promises 1 to 24: random runs of up to 512 calls, as many as an object bears; each answer is the model's too. */
public final class ModelTest {
  private static final int RUNS = 1200, CALLS = 512, MOST_AT_ONCE = 60;
  private static final Due due = new Due("ModelTest");

  private final Random random;
  private final int run;
  private final HeathFire x = new HeathFire();
  private final Model y = new Model();
  private int calls = 0;
  private int rows = 2;
  private int columns = 2;

  private ModelTest(int run) {
    this.run = run;
    this.random = new Random(run);
  }

  public static void main(String[] args) {
    int[] seen = new int[14];
    for (int run = 0; run < RUNS; run++) {
      ModelTest t = new ModelTest(run);
      t.setUp();
      while (t.calls + MOST_AT_ONCE <= CALLS) {
        t.anyCall();
      }
      for (int what = 0; what < 14; what++) {
        seen[what] += t.x.told(what) > 0 ? 1 : 0;
      }
    }
    for (int what = 6; what < 14; what++) {
      due.is("told(" + what + ") is above 0 behind some run", seen[what] > 0 ? 1 : 0, 1);
    }
    due.end();
  }

  private void same(String call, int got, int want) {
    calls++;
    due.is("run " + run + ", call " + calls + ", " + call, got, want);
  }

  private int below(int bound) {
    return random.nextInt(bound);
  }

  /** Mostly 0 to most, now and then beside that. */
  private int upTo(int most) {
    int kind = below(60);
    return kind == 0 ? -1 : kind == 1 ? most + 1 : kind == 2 ? random.nextInt() : below(most + 1);
  }

  private int anyCell() {
    return upTo(rows * columns - 1);
  }

  private void setUp() {
    if (run % 5 == 4) {
      setUpUneven();
      return;
    }
    int r = 2 + below(run % 3 == 0 ? 15 : 6);
    int c = 2 + below(run % 3 == 1 ? 15 : 4);
    grid(r, c);
    int dry = 1 + below(20);
    int cells = Math.min(rows * columns, 380);
    for (int n = 0; n < cells; n++) {
      int ground = below(12) == 0 ? below(6) : 1 + below(1 + run % 4);
      int fuel = ground % 5 == 0 ? 0 : below(15) == 0 ? below(20) : 30 + below(171);
      cell(n, ground, fuel, below(dry), below(1 + run % 30));
    }
    seed(random.nextInt());
    weather(0, below(8), below(5), 0);
    for (int i = 0; i < 1 + below(12); i++) {
      light(below(rows * columns), below(6));
    }
    strips(1 + below(Math.min(8, rows)));
    balanced(random.nextBoolean());
  }

  /** Much work in the north, little in single rows to the south, as few other grids have it: so strips are joined. */
  private void setUpUneven() {
    grid(9 + below(4), 2);
    for (int n = 0; n < rows * columns; n++) {
      cell(n, below(2) == 0 ? 1 : 4, 200, 60 + below(41), 10);
    }
    for (int n = 0; n < 20; n++) {
      light(below(15) == 0 ? below(rows * columns) : n < 14 ? n : below(14), 0);
    }
    strips(7 + below(2));
    balanced(true);
  }

  private void anyCall() {
    switch (below(26)) {
      case 0: case 1: case 2: step(below(40) == 0 ? upTo(500) : upTo(4)); break;
      case 3: case 4: crew(anyCell()); break;
      case 5: case 6: case 7: case 8: plan(); break;
      case 9: if (below(4) == 0) same("halt", 0, halt()); break;
      case 10: weather(below(2) == 0 ? upTo(10000) : y.told(2) + below(4), upTo(7), upTo(4), below(2) == 0 ? 0 : upTo(9)); break;
      case 11: light(anyCell(), below(6) == 0 ? upTo(10000) : y.told(2) + below(5)); break;
      case 12: if (below(3) == 0) strips(upTo(8)); break;
      case 13: if (below(3) == 0) balanced(below(3) > 0); break;
      case 14: keep(); break;
      case 15: back(); break;
      case 16: differs(); break;
      case 17: ahead(); break;
      case 18: if (below(5) == 0) clear(); break;
      case 19: if (below(3) == 0) cell(anyCell(), upTo(5), upTo(200), upTo(100), upTo(50)); break;
      case 20: if (below(12) == 0) grid(upTo(17), upTo(17)); break;
      case 21: if (below(4) == 0) seed(random.nextInt()); break;
      default: look(); break;
    }
  }

  private void grid(int r, int c) {
    int want = y.grid(r, c);
    same("grid(" + r + ", " + c + ")", x.grid(r, c), want);
    if (want > 0) {
      rows = r;
      columns = c;
    }
  }

  private void cell(int n, int ground, int fuel, int damp, int height) {
    same("cell(" + n + ", " + ground + ", " + fuel + ", " + damp + ", " + height + ")",
        x.cell(n, ground, fuel, damp, height), y.cell(n, ground, fuel, damp, height));
  }

  private void weather(int step, int wind, int strength, int rain) {
    same("weather(" + step + ", " + wind + ", " + strength + ", " + rain + ")", x.weather(step, wind, strength, rain),
        y.weather(step, wind, strength, rain));
  }

  private void seed(int s) {
    same("seed(" + s + ")", x.seed(s), y.seed(s));
  }

  private void light(int n, int step) {
    same("light(" + n + ", " + step + ")", x.light(n, step), y.light(n, step));
  }

  private void clear() {
    same("clear()", x.clear(), y.clear());
  }

  private void step(int n) {
    same("step(" + n + ")", x.step(n), y.step(n));
    if (below(3) == 0) {
      wideLook();
    }
  }

  private void crew(int n) {
    same("crew(" + n + ")", x.crew(n), y.crew(n));
  }

  private void plan() {
    int crew = upTo(Math.max(0, y.told(4) - 1));
    int kind = upTo(5);
    int n = kind == 0 ? (below(5) == 0 ? upTo(100) : 1 + below(4)) : anyCell();
    same("plan(" + crew + ", " + kind + ", " + n + ")", x.plan(crew, kind, n), y.plan(crew, kind, n));
  }

  private int halt() {
    int crew = upTo(7);
    return x.halt(crew) - y.halt(crew);
  }

  private void strips(int n) {
    same("strips(" + n + ")", x.strips(n), y.strips(n));
  }

  private void balanced(boolean on) {
    same("balanced(" + on + ")", x.balanced(on), y.balanced(on));
  }

  private void keep() {
    int place = upTo(2);
    same("keep(" + place + ")", x.keep(place), y.keep(place));
  }

  private void back() {
    int place = upTo(2);
    same("back(" + place + ")", x.back(place), y.back(place));
  }

  private void differs() {
    int place = upTo(2);
    same("differs(" + place + ")", x.differs(place), y.differs(place));
  }

  private void ahead() {
    int n = below(8) == 0 ? upTo(200) : below(20);
    int cell = anyCell();
    same("ahead(" + cell + ", " + n + ")", x.ahead(cell, n), y.ahead(cell, n));
  }

  private void look() {
    int n = anyCell();
    int i = upTo(13);
    int j = upTo(7);
    same("about(" + n + ", " + j + ")", x.about(n, j), y.about(n, j));
    same("told(" + i + ")", x.told(i), y.told(i));
    same("many(" + j + ")", x.many(j), y.many(j));
    same("front(" + i + ")", x.front(i), y.front(i));
    same("sky(" + n + ", " + j + ")", x.sky(n, j), y.sky(n, j));
    same("ofCrew(" + j + ", " + i + ")", x.ofCrew(j, i), y.ofCrew(j, i));
    same("strip(" + j + ", " + i + ")", x.strip(j, i), y.strip(j, i));
  }

  private void wideLook() {
    int cells = rows * columns;
    int first = below(cells);
    int what = below(8);
    for (int i = 0; i < Math.min(20, cells); i++) {
      int n = (first + i) % cells;
      same("about(" + n + ", " + what + ")", x.about(n, what), y.about(n, what));
    }
    for (int i = 6; i < 14; i++) {
      same("told(" + i + ")", x.told(i), y.told(i));
    }
    int one = below(8);
    for (int i = 0; i < 8; i++) {
      same("ofCrew(" + one + ", " + i + ")", x.ofCrew(one, i), y.ofCrew(one, i));
    }
    for (int i = 0; i < 3; i++) {
      same("strip(" + one + ", " + i + ")", x.strip(one, i), y.strip(one, i));
    }
  }
}
