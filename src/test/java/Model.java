import java.util.ArrayList;
import java.util.HashMap;
import java.util.List;
import java.util.Map;

/**
 * The document's words once more, as plainly as can be: a second writing to hold the program against. It shares no code
 * with it, looks for each cell's heat from the side of the cell that gets it, and copies whole worlds to keep them.
 */
final class Model {
  private static final int NONE = -6, UNKNOWN = -1, OUTSIDE = -2, STATE = -3, FULL = -4, NO = -5;

  private static final class Cell {
    int row, column, ground, firstFuel, firstDamp, height;
    int state, fuel, damp, heat, smoke, arrival = NONE;
    int burn, given;

    Cell copy() {
      Cell c = new Cell();
      c.row = row;
      c.column = column;
      c.ground = ground;
      c.firstFuel = firstFuel;
      c.firstDamp = firstDamp;
      c.height = height;
      c.state = state;
      c.fuel = fuel;
      c.damp = damp;
      c.heat = heat;
      c.smoke = smoke;
      c.arrival = arrival;
      return c;
    }
  }

  private static final class Band {
    int first, last, work;

    Band(int first, int last, int work) {
      this.first = first;
      this.last = last;
      this.work = work;
    }
  }

  private static final class Team {
    int cell, water = 10, heldUp, cut, doused, done;
    boolean lost;
    List<int[]> plan = new ArrayList<>();

    Team copy() {
      Team t = new Team();
      t.cell = cell;
      t.water = water;
      t.heldUp = heldUp;
      t.cut = cut;
      t.doused = doused;
      t.done = done;
      t.lost = lost;
      t.plan = new ArrayList<>(plan);
      return t;
    }
  }

  private static final class World {
    int steps, embers, burnt, passed, split, joined;
    List<Cell> cells = new ArrayList<>();
    List<Team> teams = new ArrayList<>();
    List<Band> bands = new ArrayList<>();

    World copy() {
      World w = new World();
      w.steps = steps;
      w.embers = embers;
      w.burnt = burnt;
      w.passed = passed;
      w.split = split;
      w.joined = joined;
      cells.forEach(c -> w.cells.add(c.copy()));
      teams.forEach(t -> w.teams.add(t.copy()));
      bands.forEach(b -> w.bands.add(new Band(b.first, b.last, b.work)));
      return w;
    }
  }

  private int rows = 2, columns = 2, seed;
  private boolean balanced;
  private World world = new World();
  private final List<int[]> weather = new ArrayList<>();
  private final List<int[]> lights = new ArrayList<>();
  private final Map<Integer, World> kept = new HashMap<>();
  private final Map<Integer, Boolean> stale = new HashMap<>();

  Model() {
    lay();
  }

  private void lay() {
    world = new World();
    for (int r = 0; r < rows; r++) {
      for (int c = 0; c < columns; c++) {
        Cell cell = new Cell();
        cell.row = r;
        cell.column = c;
        world.cells.add(cell);
      }
    }
    world.bands.add(new Band(0, rows - 1, 0));
  }

  private static boolean out(int x, int low, int high) {
    return x < low || x > high;
  }

  private boolean noCell(int n) {
    return n < 0 || n >= world.cells.size();
  }

  int grid(int r, int c) {
    if (out(r, 2, 16) || out(c, 2, 16)) return OUTSIDE;
    if (world.steps != 0) return STATE;
    rows = r;
    columns = c;
    weather.clear();
    lights.clear();
    lay();
    kept.keySet().forEach(p -> stale.put(p, true));
    return r * c;
  }

  int cell(int n, int ground, int fuel, int damp, int height) {
    if (noCell(n)) return UNKNOWN;
    if (out(ground, 0, 5) || out(fuel, 0, 200) || out(damp, 0, 100) || out(height, 0, 50)) return OUTSIDE;
    if (fuel > 0 && ground % 5 == 0) return OUTSIDE;
    if (world.steps != 0) return STATE;
    Cell c = world.cells.get(n);
    c.ground = ground;
    c.firstFuel = c.fuel = fuel;
    c.firstDamp = c.damp = damp;
    c.height = height;
    c.state = fuel == 0 ? 0 : 1;
    kept.keySet().forEach(p -> stale.put(p, true));
    return 1;
  }

  int weather(int step, int wind, int strength, int rain) {
    if (out(step, 0, 10000) || out(wind, 0, 7) || out(strength, 0, 4) || out(rain, 0, 9)) return OUTSIDE;
    if (weather.size() == 16) return FULL;
    weather.add(new int[] {step, wind, strength, rain});
    return weather.size();
  }

  int seed(int s) {
    int old = seed;
    seed = s;
    return old;
  }

  int light(int n, int step) {
    if (noCell(n)) return UNKNOWN;
    if (out(step, 0, 10000)) return OUTSIDE;
    if (lights.size() == 20) return FULL;
    lights.add(new int[] {n, step});
    return lights.size();
  }

  int clear() {
    int done = world.steps;
    List<Cell> old = world.cells;
    lay();
    for (int n = 0; n < old.size(); n++) {
      Cell c = world.cells.get(n);
      c.ground = old.get(n).ground;
      c.firstFuel = c.fuel = old.get(n).firstFuel;
      c.firstDamp = c.damp = old.get(n).firstDamp;
      c.height = old.get(n).height;
      c.state = c.fuel == 0 ? 0 : 1;
    }
    return done;
  }

  int step(int n) {
    if (out(n, 0, 500)) return OUTSIDE;
    for (int i = 0; i < n; i++) oneStep(world);
    return world.steps;
  }

  int about(int n, int what) {
    if (noCell(n)) return UNKNOWN;
    Cell c = world.cells.get(n);
    int[] all = {c.state, c.fuel, c.damp, c.heat, c.smoke, c.ground, c.height, c.arrival};
    return out(what, 0, 7) ? OUTSIDE : all[what];
  }

  int many(int state) {
    return out(state, 0, 5) ? OUTSIDE : (int) world.cells.stream().filter(c -> c.state == state).count();
  }

  int told(int what) {
    int[] all = {rows, columns, world.steps, weather.size(), world.teams.size(), world.bands.size(),
        world.cells.stream().mapToInt(c -> c.fuel).sum(), world.cells.stream().mapToInt(c -> c.heat).sum(),
        world.cells.stream().mapToInt(c -> c.smoke).sum(), world.embers, world.burnt, world.passed, world.split,
        world.joined};
    return out(what, 0, 13) ? OUTSIDE : all[what];
  }

  int sky(int step, int what) {
    return step < 0 || out(what, 0, 2) ? OUTSIDE : skyOf(step)[what + 1];
  }

  private int[] skyOf(int step) {
    int[] holds = {-1, 0, 0, 0};
    for (int[] entry : weather) {
      if (entry[0] <= step && entry[0] >= holds[0]) holds = entry;
    }
    return holds;
  }

  int front(int i) {
    List<Integer> front = new ArrayList<>();
    for (int n = 0; n < world.cells.size(); n++) {
      if (world.cells.get(n).state == 1 && near(world, n).stream().anyMatch(c -> c.state == 2)) front.add(n);
    }
    return i >= 0 && i < front.size() ? front.get(i) : NONE;
  }

  int crew(int n) {
    if (noCell(n)) return UNKNOWN;
    if (world.teams.size() == 8) return FULL;
    if (world.cells.get(n).ground == 0 || world.cells.get(n).state == 2) return NO;
    Team t = new Team();
    t.cell = n;
    world.teams.add(t);
    return world.teams.size() - 1;
  }

  int plan(int crew, int kind, int n) {
    if (crew < 0 || crew >= world.teams.size() || (kind == 1 && noCell(n))) return UNKNOWN;
    if (out(kind, 0, 5) || (kind == 0 && out(n, 1, 100))) return OUTSIDE;
    Team t = world.teams.get(crew);
    if (t.lost) return STATE;
    if (t.plan.size() == 12) return FULL;
    t.plan.add(new int[] {kind, n});
    return t.plan.size();
  }

  int halt(int crew) {
    if (crew < 0 || crew >= world.teams.size()) return UNKNOWN;
    Team t = world.teams.get(crew);
    if (t.lost) return STATE;
    int had = t.plan.size();
    t.plan.clear();
    t.done = 0;
    return had;
  }

  int ofCrew(int crew, int what) {
    if (crew < 0 || crew >= world.teams.size()) return UNKNOWN;
    Team t = world.teams.get(crew);
    int[] all = {t.cell, t.water, t.plan.isEmpty() ? NONE : t.plan.get(0)[0], t.plan.size(), t.lost ? 1 : 0, t.heldUp,
        t.cut, t.doused};
    return out(what, 0, 7) ? OUTSIDE : all[what];
  }

  int strips(int n) {
    if (out(n, 1, 8) || n > rows) return OUTSIDE;
    world.bands.clear();
    int row = 0;
    for (int left = n; left > 0; left--) {
      int size = (rows - row + left - 1) / left;
      world.bands.add(new Band(row, row + size - 1, 0));
      row += size;
    }
    return world.bands.get(0).last + 1;
  }

  int balanced(boolean on) {
    int was = balanced ? 1 : 0;
    balanced = on;
    return was;
  }

  int strip(int i, int what) {
    if (i < 0 || i >= world.bands.size()) return UNKNOWN;
    Band b = world.bands.get(i);
    int[] all = {b.first, b.last, b.work};
    return out(what, 0, 2) ? OUTSIDE : all[what];
  }

  int keep(int place) {
    if (out(place, 0, 2)) return UNKNOWN;
    kept.put(place, world.copy());
    stale.put(place, false);
    return world.steps;
  }

  int back(int place) {
    if (!kept.containsKey(place)) return UNKNOWN;
    if (stale.get(place)) return STATE;
    world = kept.get(place).copy();
    return world.steps;
  }

  int differs(int place) {
    if (!kept.containsKey(place)) return UNKNOWN;
    if (stale.get(place)) return STATE;
    int count = 0;
    for (int n = 0; n < world.cells.size(); n++) {
      Cell a = world.cells.get(n);
      Cell b = kept.get(place).cells.get(n);
      boolean same = a.state == b.state && a.fuel == b.fuel && a.damp == b.damp && a.heat == b.heat && a.smoke == b.smoke;
      if (!same) count++;
    }
    return count;
  }

  int ahead(int cell, int n) {
    if (noCell(cell)) return UNKNOWN;
    if (out(n, 0, 200)) return OUTSIDE;
    World w = world.copy();
    int before = w.cells.get(cell).arrival;
    for (int i = 0; i < n; i++) oneStep(w);
    int then = w.cells.get(cell).arrival;
    return before == then ? NONE : then;
  }

  // ---- a step

  private List<Cell> near(World w, int n) {
    List<Cell> near = new ArrayList<>();
    Cell own = w.cells.get(n);
    for (Cell c : w.cells) {
      if (c != own && Math.abs(c.row - own.row) <= 1 && Math.abs(c.column - own.column) <= 1) near.add(c);
    }
    return near;
  }

  private Cell at(World w, int row, int column) {
    return row < 0 || row >= rows || column < 0 || column >= columns ? null : w.cells.get(row * columns + column);
  }

  private static int bandOf(World w, Cell c) {
    int i = 0;
    while (w.bands.get(i).last < c.row) i++;
    return i;
  }

  private static int lot(int seed, int s, int n, int k) {
    long m = (seed * 69069L + s * 40503L + n * 2654435L + k * 9973L) & 0xFFFFFFFFL;
    for (int i = 0; i < 2; i++) {
      m = ((m ^ (m >> 15)) * 739982445L) & 0xFFFFFFFFL;
    }
    return (int) (m >> 16);
  }

  private static void ignite(World w, Cell c) {
    if (c.state != 1) return;
    c.state = 2;
    c.arrival = w.steps;
  }

  /** Eighths of a turn to the right from north, by where rows and columns go. */
  private static int heading(int down, int right) {
    String[] names = {"-1 0", "-1 1", "0 1", "1 1", "1 0", "1 -1", "0 -1", "-1 -1"};
    for (int d = 0; d < 8; d++) {
      if (names[d].equals(down + " " + right)) return d;
    }
    throw new IllegalStateException();
  }

  private static int down(int wind) {
    return wind == 0 || wind == 1 || wind == 7 ? -1 : wind == 3 || wind == 4 || wind == 5 ? 1 : 0;
  }

  private static int right(int wind) {
    return wind >= 1 && wind <= 3 ? 1 : wind >= 5 ? -1 : 0;
  }

  private void oneStep(World w) {
    int[] sky = skyOf(w.steps);
    for (int[] l : lights) {
      if (l[1] == w.steps) ignite(w, w.cells.get(l[0]));
    }
    for (Team t : w.teams) teamActs(w, t);
    for (Team t : w.teams) {
      if (w.cells.get(t.cell).state == 2) {
        t.lost = true;
        t.plan.clear();
        t.done = 0;
      }
    }
    burning(w, sky[1], sky[2]);
    cellsChange(w, sky[3]);
    smoke(w, sky[1], sky[2]);
    w.steps++;
    if (balanced) balance(w);
  }

  private void burning(World w, int wind, int strength) {
    for (Band b : w.bands) b.work = (b.last - b.first + 1) * columns;
    int[] rate = {0, 12, 8, 6, 2, 0};
    for (Cell c : w.cells) {
      c.given = 0;
      c.burn = c.state == 2 ? Math.min(rate[c.ground], c.fuel) : 0;
      w.burnt += c.burn;
      if (c.state == 2) w.bands.get(bandOf(w, c)).work += 4;
    }
    for (int n = 0; n < w.cells.size(); n++) {
      Cell to = w.cells.get(n);
      for (Cell from : near(w, n)) {
        if (from.state != 2) continue;
        int turn = Math.abs(heading(to.row - from.row, to.column - from.column) - wind);
        int off = Math.min(turn, 8 - turn);
        int slope = Math.max(-6, Math.min(6, to.height - from.height));
        int heat = from.burn * (8 + strength * (2 - off) + slope) / 8;
        if (heat <= 0) continue;
        to.given += heat;
        if (bandOf(w, from) != bandOf(w, to)) w.passed++;
      }
    }
    for (int n = 0; n < w.cells.size(); n++) {
      Cell c = w.cells.get(n);
      if (c.state != 2 || c.ground != 3 || strength < 2 || lot(seed, w.steps, n, 0) % 100 >= 6 * strength) continue;
      int far = 2 + lot(seed, w.steps, n, 1) % 3;
      Cell to = at(w, c.row + far * down(wind), c.column + far * right(wind));
      if (to == null) continue;
      to.given += 40;
      w.embers++;
      if (bandOf(w, c) != bandOf(w, to)) w.passed++;
    }
  }

  private void cellsChange(World w, int rain) {
    int[] least = {0, 20, 30, 50, 40, 0};
    for (int n = 0; n < w.cells.size(); n++) {
      Cell c = w.cells.get(n);
      c.heat = c.given + c.heat / 2;
      if (c.state == 1) {
        c.damp = Math.max(c.damp - c.given / 4, 0);
        c.damp = Math.min(c.damp + 3 * rain, 100);
        if (c.heat >= least[c.ground] + c.damp) ignite(w, c);
      } else if (c.state == 2) {
        c.fuel -= c.burn;
        if (c.fuel == 0) {
          c.state = 3;
        } else if (rain > c.burn && lot(seed, w.steps, n, 2) % 10 < rain) {
          c.state = 5;
        }
      }
    }
  }

  private void smoke(World w, int wind, int strength) {
    Map<Cell, Integer> came = new HashMap<>();
    for (Cell c : w.cells) {
      int all = c.smoke + c.burn;
      int goes = strength > 0 ? all / 2 : 0;
      int rest = all - goes;
      c.smoke = rest - rest / 4;
      Cell to = at(w, c.row + down(wind), c.column + right(wind));
      if (to != null && goes > 0) {
        came.merge(to, goes, Integer::sum);
        if (bandOf(w, c) != bandOf(w, to)) w.passed++;
      }
    }
    came.forEach((c, more) -> c.smoke += more);
  }

  private static void balance(World w) {
    int sum = w.bands.stream().mapToInt(b -> b.work).sum();
    int mean = sum / w.bands.size();
    Band most = w.bands.get(0);
    for (Band b : w.bands) {
      if (b.work > most.work) most = b;
    }
    int size = most.last - most.first + 1;
    if (most.work > 2 * mean && size >= 2 && w.bands.size() < 8) {
      int i = w.bands.indexOf(most);
      int cut = most.first + size / 2;
      w.bands.set(i, new Band(most.first, cut - 1, 0));
      w.bands.add(i + 1, new Band(cut, most.last, 0));
      w.split++;
      return;
    }
    for (int i = 1; i < w.bands.size(); i++) {
      Band a = w.bands.get(i - 1);
      Band b = w.bands.get(i);
      if (a.work + b.work < mean / 2) {
        w.bands.remove(i);
        w.bands.set(i - 1, new Band(a.first, b.last, 0));
        w.joined++;
        return;
      }
    }
  }

  private void teamActs(World w, Team t) {
    if (t.lost || t.plan.isEmpty()) return;
    int kind = t.plan.get(0)[0];
    int n = t.plan.get(0)[1];
    Cell own = w.cells.get(t.cell);
    boolean over = true;
    t.done++;
    if (kind == 0) {
      over = t.done == n;
    } else if (kind == 1 && n != t.cell) {
      Cell goal = w.cells.get(n);
      Cell next = at(w, own.row + sign(goal.row - own.row), own.column + sign(goal.column - own.column));
      if (next.state == 2 || next.ground == 0) {
        t.heldUp++;
      } else {
        t.cell = w.cells.indexOf(next);
        over = t.cell == n;
      }
    } else if (kind == 2 && own.state == 1) {
      over = t.done == 2;
      if (over) {
        own.fuel = 0;
        own.state = 4;
        t.cut++;
      }
    } else if (kind == 3 && t.water > 0) {
      Cell best = null;
      for (Cell c : near(w, t.cell)) {
        if (c.state == 2 && (best == null || c.heat > best.heat)) best = c;
      }
      if (best != null) {
        best.state = 5;
        best.heat = 0;
        t.water--;
        t.doused++;
      }
    } else if (kind == 4) {
      if (own.ground == 0 || near(w, t.cell).stream().anyMatch(c -> c.ground == 0)) t.water = 40;
    } else if (kind == 5) {
      ignite(w, own);
    }
    if (over) {
      t.plan.remove(0);
      t.done = 0;
    }
  }

  private static int sign(int x) {
    return x > 0 ? 1 : x < 0 ? -1 : 0;
  }
}
