import java.util.Arrays;

/**
 * A forecast of heath fires on a grid, worked step by step. The land, the weather and the lights are told from
 * outside; all that comes of them is one Scene, so that it can be begun anew, kept, gone back to and looked ahead of.
 */
public final class HeathFire {
    public static final int NONE = -6, UNKNOWN = -1, OUTSIDE = -2, STATE = -3, FULL = -4, NO = -5;

    private static final int FEWEST_ROWS = 2, MOST_ROWS = 16, MOST_CELLS = MOST_ROWS * MOST_ROWS;
    private static final int MOST_FUEL = 200, MOST_DAMP = 100, MOST_HEIGHT = 50;
    private static final int MOST_ENTRIES = 16, MOST_LIGHTS = 20, LATEST_TOLD = 10000;
    private static final int MOST_STRENGTH = 4, MOST_RAIN = 9;
    private static final int MOST_STEPS = 500, MOST_AHEAD = 200;
    private static final int MOST_CREWS = 8, MOST_ACTS = 12, MOST_REST = 100;
    private static final int MOST_STRIPS = 8, PLACES = 3;

    private static final int WATER = 0, WOOD = 3, ROAD = 5;
    private static final int BARE = 0, FUEL = 1, ALIGHT = 2, BURNT = 3, CUT = 4, DOUSED = 5;
    private static final int REST = 0, GO = 1, CUTTING = 2, DOUSE = 3, FILL = 4, BACKFIRE = 5;
    private static final int WIND = 0, STRENGTH = 1, RAIN = 2, KINDS_OF_WEATHER = 3;

    private static final int FIRST_WATER = 10, FULL_WATER = 40;
    private static final int STEEPEST = 6, EMBER_STRENGTH = 2, EMBER_HEAT = 40, WORK_OF_ALIGHT = 4;

    private static final int DIRECTIONS = 8;
    /** By direction, from north on to the right: what it adds to the row and to the column. */
    private static final int[] DOWN = {-1, -1, 0, 1, 1, 1, 0, -1};
    private static final int[] RIGHT = {0, 1, 1, 1, 0, -1, -1, -1};
    /** By eighths of a turn off where the wind blows to: how often its strength counts. */
    private static final int[] PULL = {2, 1, 0, -1, -2, -1, 0, 1};
    /** By ground; WATER and ROAD never have fuel. */
    private static final int[] RATE = {0, 12, 8, 6, 2, 0};
    private static final int[] CATCH = {0, 20, 30, 50, 40, 0};

    private final Land land = new Land();
    private final Weather weather = new Weather();
    private final Lights lights = new Lights();
    private final Fire fire = new Fire();
    private final Scene now = new Scene();
    private final Scene trial = new Scene();
    private final Scene[] kept = new Scene[PLACES];
    /** The land's age as each place was kept; NONE where nothing is. */
    private final int[] keptAge = new int[PLACES];
    private int seed = 0;
    private boolean balancing = false;

    public HeathFire() {
        for (int i = 0; i < PLACES; i++) {
            kept[i] = new Scene();
            keptAge[i] = NONE;
        }
    }

    // ---- 1 the grid

    public int grid(int rows, int columns) {
        if (!isWithin(rows, FEWEST_ROWS, MOST_ROWS) || !isWithin(columns, FEWEST_ROWS, MOST_ROWS)) {
            return OUTSIDE;
        }
        if (now.steps > 0) {
            return STATE;
        }
        land.layOut(rows, columns);
        weather.count = 0;
        lights.count = 0;
        now.begin(land);
        return land.cells;
    }

    public int cell(int n, int ground, int fuel, int damp, int height) {
        if (!land.has(n)) {
            return UNKNOWN;
        }
        if (!isWithin(ground, WATER, ROAD) || !isWithin(fuel, 0, MOST_FUEL) || !isWithin(damp, 0, MOST_DAMP)
                || !isWithin(height, 0, MOST_HEIGHT) || (fuel != 0 && (ground == WATER || ground == ROAD))) {
            return OUTSIDE;
        }
        if (now.steps > 0) {
            return STATE;
        }
        land.tell(n, ground, fuel, damp, height);
        now.beginCell(land, n);
        return 1;
    }

    public int weather(int step, int wind, int strength, int rain) {
        if (!isWithin(step, 0, LATEST_TOLD) || !isWithin(wind, 0, DIRECTIONS - 1)
                || !isWithin(strength, 0, MOST_STRENGTH) || !isWithin(rain, 0, MOST_RAIN)) {
            return OUTSIDE;
        }
        if (weather.count >= MOST_ENTRIES) {
            return FULL;
        }
        weather.add(step, wind, strength, rain);
        return weather.count;
    }

    public int seed(int s) {
        int before = seed;
        seed = s;
        return before;
    }

    public int light(int n, int step) {
        if (!land.has(n)) {
            return UNKNOWN;
        }
        if (!isWithin(step, 0, LATEST_TOLD)) {
            return OUTSIDE;
        }
        if (lights.count >= MOST_LIGHTS) {
            return FULL;
        }
        lights.add(n, step);
        return lights.count;
    }

    public int clear() {
        int done = now.steps;
        now.begin(land);
        return done;
    }

    // ---- 2 steps

    public int step(int n) {
        if (!isWithin(n, 0, MOST_STEPS)) {
            return OUTSIDE;
        }
        for (int i = 0; i < n; i++) {
            work(now);
        }
        return now.steps;
    }

    public int about(int n, int what) {
        if (!land.has(n)) {
            return UNKNOWN;
        }
        switch (what) {
            case 0: return now.state[n];
            case 1: return now.fuel[n];
            case 2: return now.damp[n];
            case 3: return now.heat[n];
            case 4: return now.smoke[n];
            case 5: return land.ground[n];
            case 6: return land.height[n];
            case 7: return now.arrival[n];
            default: return OUTSIDE;
        }
    }

    public int many(int state) {
        if (!isWithin(state, BARE, DOUSED)) {
            return OUTSIDE;
        }
        int count = 0;
        for (int n = 0; n < land.cells; n++) {
            if (now.state[n] == state) {
                count++;
            }
        }
        return count;
    }

    public int told(int what) {
        switch (what) {
            case 0: return land.rows;
            case 1: return land.columns;
            case 2: return now.steps;
            case 3: return weather.count;
            case 4: return now.crewCount;
            case 5: return now.strips.count;
            case 6: return sum(now.fuel, land.cells);
            case 7: return sum(now.heat, land.cells);
            case 8: return sum(now.smoke, land.cells);
            case 9: return now.embers;
            case 10: return now.burnt;
            case 11: return now.passed;
            case 12: return now.splits;
            case 13: return now.joins;
            default: return OUTSIDE;
        }
    }

    public int sky(int step, int what) {
        if (step < 0 || !isWithin(what, WIND, RAIN)) {
            return OUTSIDE;
        }
        return weather.read(weather.entryOf(step), what);
    }

    public int front(int i) {
        int before = 0;
        for (int n = 0; n < land.cells; n++) {
            if (now.state[n] == FUEL && hasAlightNeighbour(n)) {
                if (before == i) {
                    return n;
                }
                before++;
            }
        }
        return NONE;
    }

    // ---- 3 crews

    public int crew(int n) {
        if (!land.has(n)) {
            return UNKNOWN;
        }
        if (now.crewCount >= MOST_CREWS) {
            return FULL;
        }
        if (land.ground[n] == WATER || now.state[n] == ALIGHT) {
            return NO;
        }
        now.crews[now.crewCount].begin(n);
        now.crewCount++;
        return now.crewCount - 1;
    }

    public int plan(int crew, int kind, int n) {
        if (!hasCrew(crew) || (kind == GO && !land.has(n))) {
            return UNKNOWN;
        }
        if (!isWithin(kind, REST, BACKFIRE) || (kind == REST && !isWithin(n, 1, MOST_REST))) {
            return OUTSIDE;
        }
        Crew c = now.crews[crew];
        if (c.lost) {
            return STATE;
        }
        if (c.acts >= MOST_ACTS) {
            return FULL;
        }
        c.addAct(kind, n);
        return c.acts;
    }

    public int halt(int crew) {
        if (!hasCrew(crew)) {
            return UNKNOWN;
        }
        Crew c = now.crews[crew];
        if (c.lost) {
            return STATE;
        }
        int had = c.acts;
        c.dropPlan();
        return had;
    }

    public int ofCrew(int crew, int what) {
        if (!hasCrew(crew)) {
            return UNKNOWN;
        }
        Crew c = now.crews[crew];
        switch (what) {
            case 0: return c.cell;
            case 1: return c.water;
            case 2: return c.acts > 0 ? c.kinds[0] : NONE;
            case 3: return c.acts;
            case 4: return c.lost ? 1 : 0;
            case 5: return c.heldUp;
            case 6: return c.cut;
            case 7: return c.doused;
            default: return OUTSIDE;
        }
    }

    // ---- 4 strips

    public int strips(int n) {
        if (!isWithin(n, 1, MOST_STRIPS) || n > land.rows) {
            return OUTSIDE;
        }
        now.strips.part(land.rows, n);
        return now.strips.rowsOf(0);
    }

    public int balanced(boolean on) {
        int before = balancing ? 1 : 0;
        balancing = on;
        return before;
    }

    public int strip(int i, int what) {
        if (i < 0 || i >= now.strips.count) {
            return UNKNOWN;
        }
        switch (what) {
            case 0: return now.strips.first[i];
            case 1: return now.strips.last[i];
            case 2: return now.strips.work[i];
            default: return OUTSIDE;
        }
    }

    // ---- 5 states

    public int keep(int place) {
        if (!isPlace(place)) {
            return UNKNOWN;
        }
        kept[place].copyFrom(now);
        keptAge[place] = land.age;
        return now.steps;
    }

    public int back(int place) {
        if (!isPlace(place) || keptAge[place] == NONE) {
            return UNKNOWN;
        }
        if (keptAge[place] != land.age) {
            return STATE;
        }
        now.copyFrom(kept[place]);
        return now.steps;
    }

    public int differs(int place) {
        if (!isPlace(place) || keptAge[place] == NONE) {
            return UNKNOWN;
        }
        if (keptAge[place] != land.age) {
            return STATE;
        }
        int count = 0;
        for (int n = 0; n < land.cells; n++) {
            if (!now.isAlikeAt(n, kept[place])) {
                count++;
            }
        }
        return count;
    }

    public int ahead(int cell, int n) {
        if (!land.has(cell)) {
            return UNKNOWN;
        }
        if (!isWithin(n, 0, MOST_AHEAD)) {
            return OUTSIDE;
        }
        // A cell becomes ALIGHT once at most: nothing brings it back to STATE 1.
        if (now.arrival[cell] != NONE) {
            return NONE;
        }
        trial.copyFrom(now);
        for (int i = 0; i < n && trial.arrival[cell] == NONE; i++) {
            work(trial);
        }
        return trial.arrival[cell];
    }

    // ---- what the face is made of

    private static boolean isWithin(int x, int least, int most) {
        return x >= least && x <= most;
    }

    private static boolean isPlace(int place) {
        return place >= 0 && place < PLACES;
    }

    private static int sum(int[] row, int length) {
        int sum = 0;
        for (int n = 0; n < length; n++) {
            sum += row[n];
        }
        return sum;
    }

    private boolean hasCrew(int crew) {
        return crew >= 0 && crew < now.crewCount;
    }

    private boolean hasAlightNeighbour(int n) {
        for (int d = 0; d < DIRECTIONS; d++) {
            int other = land.off(n, d, 1);
            if (other >= 0 && now.state[other] == ALIGHT) {
                return true;
            }
        }
        return false;
    }

    /** One STEP of a scene. */
    private void work(Scene scene) {
        fire.setOut(weather, scene.steps, seed);
        lights.kindle(scene);
        for (int i = 0; i < scene.crewCount; i++) {
            scene.crews[i].act(scene, land);
        }
        scene.loseCrews();
        scene.strips.beginWork(land.columns);
        for (int i = 0; i < scene.strips.count; i++) {
            fire.burnStrip(scene, land, i);
        }
        fire.settle(scene, land);
        for (int i = 0; i < scene.strips.count; i++) {
            fire.blowStrip(scene, land, i);
        }
        fire.layDownSmoke(scene, land);
        scene.steps++;
        if (balancing) {
            scene.balance();
        }
    }

    /** What grid() and cell() told. */
    private static final class Land {
        final int[] ground = new int[MOST_CELLS];
        final int[] fuel = new int[MOST_CELLS];
        final int[] damp = new int[MOST_CELLS];
        final int[] height = new int[MOST_CELLS];
        int rows = FEWEST_ROWS;
        /** Never below 2, so that it may divide. */
        int columns = FEWEST_ROWS;
        int cells = FEWEST_ROWS * FEWEST_ROWS;
        /** Grows with each change, so that a kept scene can tell whether it still fits. */
        int age = 0;

        boolean has(int n) {
            return n >= 0 && n < cells;
        }

        void layOut(int newRows, int newColumns) {
            rows = newRows;
            columns = newColumns;
            cells = newRows * newColumns;
            for (int n = 0; n < cells; n++) {
                tell(n, WATER, 0, 0, 0);
            }
        }

        void tell(int n, int newGround, int newFuel, int newDamp, int newHeight) {
            ground[n] = newGround;
            fuel[n] = newFuel;
            damp[n] = newDamp;
            height[n] = newHeight;
            age++;
        }

        /** The cell so far off a cell in a direction; UNKNOWN outside the grid. */
        int off(int n, int direction, int far) {
            int row = n / columns + far * DOWN[direction];
            int column = n % columns + far * RIGHT[direction];
            if (row < 0 || row >= rows || column < 0 || column >= columns) {
                return UNKNOWN;
            }
            return row * columns + column;
        }

        /** The cell that a crew steps onto from one cell towards another. */
        int nearer(int from, int to) {
            int row = from / columns;
            int column = from % columns;
            row += Integer.compare(to / columns, row);
            column += Integer.compare(to % columns, column);
            return row * columns + column;
        }
    }

    /** What weather() told, in the order of telling. */
    private static final class Weather {
        final int[] from = new int[MOST_ENTRIES];
        final int[] values = new int[MOST_ENTRIES * KINDS_OF_WEATHER];
        int count = 0;

        void add(int step, int wind, int strength, int rain) {
            from[count] = step;
            int at = count * KINDS_OF_WEATHER;
            values[at + WIND] = wind;
            values[at + STRENGTH] = strength;
            values[at + RAIN] = rain;
            count++;
        }

        /** The entry that holds in a step, or NONE. */
        int entryOf(int step) {
            int best = NONE;
            for (int i = 0; i < count; i++) {
                if (from[i] <= step && (best == NONE || from[i] >= from[best])) {
                    best = i;
                }
            }
            return best;
        }

        int read(int entry, int what) {
            return entry == NONE ? 0 : values[entry * KINDS_OF_WEATHER + what];
        }
    }

    /** What light() told; all of it stays, as clear() lets the steps come again. */
    private static final class Lights {
        final int[] cells = new int[MOST_LIGHTS];
        final int[] steps = new int[MOST_LIGHTS];
        int count = 0;

        void add(int n, int step) {
            cells[count] = n;
            steps[count] = step;
            count++;
        }

        void kindle(Scene scene) {
            for (int i = 0; i < count; i++) {
                if (steps[i] == scene.steps) {
                    scene.kindle(cells[i]);
                }
            }
        }
    }

    /** All that clear() lets begin anew. */
    private static final class Scene {
        final int[] state = new int[MOST_CELLS];
        final int[] fuel = new int[MOST_CELLS];
        final int[] damp = new int[MOST_CELLS];
        final int[] heat = new int[MOST_CELLS];
        final int[] smoke = new int[MOST_CELLS];
        final int[] arrival = new int[MOST_CELLS];
        final Crew[] crews = new Crew[MOST_CREWS];
        final Strips strips = new Strips();
        int crewCount = 0;
        int steps = 0;
        int embers = 0;
        int burnt = 0;
        int passed = 0;
        int splits = 0;
        int joins = 0;

        Scene() {
            Arrays.fill(arrival, NONE);
            for (int i = 0; i < MOST_CREWS; i++) {
                crews[i] = new Crew();
            }
        }

        void begin(Land land) {
            for (int n = 0; n < land.cells; n++) {
                beginCell(land, n);
            }
            strips.part(land.rows, 1);
            crewCount = 0;
            steps = 0;
            embers = 0;
            burnt = 0;
            passed = 0;
            splits = 0;
            joins = 0;
        }

        void beginCell(Land land, int n) {
            state[n] = land.fuel[n] > 0 ? FUEL : BARE;
            fuel[n] = land.fuel[n];
            damp[n] = land.damp[n];
            heat[n] = 0;
            smoke[n] = 0;
            arrival[n] = NONE;
        }

        void copyFrom(Scene other) {
            System.arraycopy(other.state, 0, state, 0, MOST_CELLS);
            System.arraycopy(other.fuel, 0, fuel, 0, MOST_CELLS);
            System.arraycopy(other.damp, 0, damp, 0, MOST_CELLS);
            System.arraycopy(other.heat, 0, heat, 0, MOST_CELLS);
            System.arraycopy(other.smoke, 0, smoke, 0, MOST_CELLS);
            System.arraycopy(other.arrival, 0, arrival, 0, MOST_CELLS);
            for (int i = 0; i < other.crewCount; i++) {
                crews[i].copyFrom(other.crews[i]);
            }
            strips.copyFrom(other.strips);
            crewCount = other.crewCount;
            steps = other.steps;
            embers = other.embers;
            burnt = other.burnt;
            passed = other.passed;
            splits = other.splits;
            joins = other.joins;
        }

        boolean isAlikeAt(int n, Scene other) {
            return state[n] == other.state[n] && fuel[n] == other.fuel[n] && damp[n] == other.damp[n]
                    && heat[n] == other.heat[n] && smoke[n] == other.smoke[n];
        }

        void kindle(int n) {
            if (state[n] == FUEL) {
                state[n] = ALIGHT;
                arrival[n] = steps;
            }
        }

        void loseCrews() {
            for (int i = 0; i < crewCount; i++) {
                if (state[crews[i].cell] == ALIGHT) {
                    crews[i].lost = true;
                    crews[i].dropPlan();
                }
            }
        }

        void balance() {
            // One strip alone is not above the mean, and has none beside it.
            if (strips.count < 2) {
                return;
            }
            if (strips.splitBusiest()) {
                splits++;
            } else if (strips.joinIdle()) {
                joins++;
            }
        }
    }

    /** A crew and its plan; the act at hand is the first. A lost one has no plan, and gets none. */
    private static final class Crew {
        final int[] kinds = new int[MOST_ACTS];
        final int[] numbers = new int[MOST_ACTS];
        int acts = 0;
        /** How many steps the act at hand has had. */
        int spent = 0;
        int cell = 0;
        int water = 0;
        int heldUp = 0;
        int cut = 0;
        int doused = 0;
        boolean lost = false;

        void begin(int n) {
            dropPlan();
            cell = n;
            water = FIRST_WATER;
            heldUp = 0;
            cut = 0;
            doused = 0;
            lost = false;
        }

        void copyFrom(Crew other) {
            System.arraycopy(other.kinds, 0, kinds, 0, MOST_ACTS);
            System.arraycopy(other.numbers, 0, numbers, 0, MOST_ACTS);
            acts = other.acts;
            spent = other.spent;
            cell = other.cell;
            water = other.water;
            heldUp = other.heldUp;
            cut = other.cut;
            doused = other.doused;
            lost = other.lost;
        }

        void addAct(int kind, int number) {
            kinds[acts] = kind;
            numbers[acts] = number;
            acts++;
        }

        void dropPlan() {
            acts = 0;
            spent = 0;
        }

        void act(Scene scene, Land land) {
            if (acts == 0) {
                return;
            }
            spent++;
            if (isOver(scene, land)) {
                endAct();
            }
        }

        private boolean isOver(Scene scene, Land land) {
            switch (kinds[0]) {
                case REST:
                    return spent >= numbers[0];
                case GO:
                    return goOn(scene, land);
                case CUTTING:
                    return cutOn(scene);
                case DOUSE:
                    douse(scene, land);
                    return true;
                case FILL:
                    fill(land);
                    return true;
                default:
                    scene.kindle(cell);
                    return true;
            }
        }

        private void endAct() {
            for (int i = 1; i < acts; i++) {
                kinds[i - 1] = kinds[i];
                numbers[i - 1] = numbers[i];
            }
            acts--;
            spent = 0;
        }

        private boolean goOn(Scene scene, Land land) {
            int next = land.nearer(cell, numbers[0]);
            if (next == cell) {
                return true;
            }
            if (scene.state[next] == ALIGHT || land.ground[next] == WATER) {
                heldUp++;
                return true;
            }
            cell = next;
            return cell == numbers[0];
        }

        private boolean cutOn(Scene scene) {
            if (scene.state[cell] != FUEL) {
                return true;
            }
            if (spent < 2) {
                return false;
            }
            scene.state[cell] = CUT;
            scene.fuel[cell] = 0;
            cut++;
            return true;
        }

        private void douse(Scene scene, Land land) {
            if (water <= 0) {
                return;
            }
            int hottest = hottestAbout(scene, land);
            if (hottest < 0) {
                return;
            }
            scene.state[hottest] = DOUSED;
            scene.heat[hottest] = 0;
            water--;
            doused++;
        }

        /** The ALIGHT cell about it with the most heat, of several the least number; UNKNOWN if there is none. */
        private int hottestAbout(Scene scene, Land land) {
            int best = UNKNOWN;
            for (int d = 0; d < DIRECTIONS; d++) {
                int n = land.off(cell, d, 1);
                if (n >= 0 && scene.state[n] == ALIGHT) {
                    boolean better = best < 0 || scene.heat[n] > scene.heat[best]
                            || (scene.heat[n] == scene.heat[best] && n < best);
                    best = better ? n : best;
                }
            }
            return best;
        }

        private void fill(Land land) {
            boolean near = land.ground[cell] == WATER;
            for (int d = 0; d < DIRECTIONS; d++) {
                int n = land.off(cell, d, 1);
                near = near || (n >= 0 && land.ground[n] == WATER);
            }
            water = near ? FULL_WATER : water;
        }
    }

    /** The strips from north to south; there is always one at least. */
    private static final class Strips {
        final int[] first = new int[MOST_STRIPS];
        final int[] last = new int[MOST_STRIPS];
        /** Of the latest step; 0 of a strip that is new since. */
        final int[] work = new int[MOST_STRIPS];
        int count = 1;

        Strips() {
            last[0] = FEWEST_ROWS - 1;
        }

        void copyFrom(Strips other) {
            System.arraycopy(other.first, 0, first, 0, MOST_STRIPS);
            System.arraycopy(other.last, 0, last, 0, MOST_STRIPS);
            System.arraycopy(other.work, 0, work, 0, MOST_STRIPS);
            count = other.count;
        }

        int rowsOf(int i) {
            return last[i] - first[i] + 1;
        }

        /** Takes 1 to 8 strips, as many as there are rows at most. */
        void part(int rows, int strips) {
            int row = 0;
            for (int i = 0; i < strips; i++) {
                int more = i < rows % strips ? 1 : 0;
                first[i] = row;
                row += rows / strips + more;
                last[i] = row - 1;
                work[i] = 0;
            }
            count = strips;
        }

        void beginWork(int columns) {
            for (int i = 0; i < count; i++) {
                work[i] = rowsOf(i) * columns;
            }
        }

        boolean splitBusiest() {
            int busiest = 0;
            for (int i = 1; i < count; i++) {
                if (work[i] > work[busiest]) {
                    busiest = i;
                }
            }
            if (work[busiest] <= 2 * meanWork() || rowsOf(busiest) < 2 || count >= MOST_STRIPS) {
                return false;
            }
            split(busiest);
            return true;
        }

        boolean joinIdle() {
            int bound = meanWork() / 2;
            for (int i = 0; i + 1 < count; i++) {
                if (work[i] + work[i + 1] < bound) {
                    join(i);
                    return true;
                }
            }
            return false;
        }

        private int meanWork() {
            return sum(work, count) / count;
        }

        private void split(int i) {
            for (int j = count; j > i; j--) {
                move(j - 1, j);
            }
            count++;
            last[i] = first[i] + rowsOf(i) / 2 - 1;
            first[i + 1] = last[i] + 1;
            work[i] = 0;
            work[i + 1] = 0;
        }

        private void join(int i) {
            last[i] = last[i + 1];
            work[i] = 0;
            for (int j = i + 2; j < count; j++) {
                move(j, j - 1);
            }
            count--;
        }

        private void move(int from, int to) {
            first[to] = first[from];
            last[to] = last[from];
            work[to] = work[from];
        }
    }

    /** The fire of one step, by that step's weather; its rows serve every step anew. */
    private static final class Fire {
        final int[] burn = new int[MOST_CELLS];
        final int[] given = new int[MOST_CELLS];
        final int[] drift = new int[MOST_CELLS];
        int step = 0;
        int seed = 0;
        int wind = 0;
        int strength = 0;
        int rain = 0;

        void setOut(Weather weather, int newStep, int newSeed) {
            int entry = weather.entryOf(newStep);
            step = newStep;
            seed = newSeed;
            wind = weather.read(entry, WIND);
            strength = weather.read(entry, STRENGTH);
            rain = weather.read(entry, RAIN);
        }

        void burnStrip(Scene scene, Land land, int strip) {
            int from = scene.strips.first[strip] * land.columns;
            int to = (scene.strips.last[strip] + 1) * land.columns;
            for (int n = from; n < to; n++) {
                burn[n] = 0;
                if (scene.state[n] == ALIGHT) {
                    scene.strips.work[strip] += WORK_OF_ALIGHT;
                    burn[n] = Math.min(RATE[land.ground[n]], scene.fuel[n]);
                    scene.burnt += burn[n];
                    scene.passed += giveHeat(land, n, from, to) + throwEmber(scene, land, n, from, to);
                }
            }
        }

        /** How many of the cells that got heat lie outside the strip, which goes from a cell up to another. */
        private int giveHeat(Land land, int n, int from, int to) {
            int passed = 0;
            for (int d = 0; d < DIRECTIONS; d++) {
                int other = land.off(n, d, 1);
                if (other >= 0) {
                    int slope = Math.max(-STEEPEST, Math.min(STEEPEST, land.height[other] - land.height[n]));
                    int pull = strength * PULL[(d - wind) & (DIRECTIONS - 1)];
                    int heat = burn[n] * (8 + pull + slope) / 8;
                    if (heat > 0) {
                        given[other] += heat;
                        passed += other < from || other >= to ? 1 : 0;
                    }
                }
            }
            return passed;
        }

        /** 1 if an ember was thrown out of the strip, which goes from a cell up to another. */
        private int throwEmber(Scene scene, Land land, int n, int from, int to) {
            if (land.ground[n] != WOOD || strength < EMBER_STRENGTH || lot(n, 0) % 100 >= 6 * strength) {
                return 0;
            }
            int target = land.off(n, wind, 2 + lot(n, 1) % 3);
            if (target < 0) {
                return 0;
            }
            given[target] += EMBER_HEAT;
            scene.embers++;
            return target < from || target >= to ? 1 : 0;
        }

        private int lot(int n, int k) {
            int m = seed * 69069 + step * 40503 + n * 2654435 + k * 9973;
            m = (m ^ (m >>> 15)) * 739982445;
            m = (m ^ (m >>> 15)) * 739982445;
            return m >>> 16;
        }

        /** What the heat and the rain make of the cells. */
        void settle(Scene scene, Land land) {
            for (int n = 0; n < land.cells; n++) {
                scene.heat[n] = given[n] + scene.heat[n] / 2;
                if (scene.state[n] == FUEL) {
                    dryAndCatch(scene, land, n);
                } else if (scene.state[n] == ALIGHT) {
                    burnDown(scene, n);
                }
                given[n] = 0;
            }
        }

        private void dryAndCatch(Scene scene, Land land, int n) {
            int dried = Math.max(0, scene.damp[n] - given[n] / 4);
            scene.damp[n] = Math.min(MOST_DAMP, dried + 3 * rain);
            if (scene.heat[n] >= CATCH[land.ground[n]] + scene.damp[n]) {
                scene.kindle(n);
            }
        }

        private void burnDown(Scene scene, int n) {
            scene.fuel[n] -= burn[n];
            if (scene.fuel[n] == 0) {
                scene.state[n] = BURNT;
            } else if (rain > burn[n] && lot(n, 2) % 10 < rain) {
                scene.state[n] = DOUSED;
            }
        }

        void blowStrip(Scene scene, Land land, int strip) {
            int from = scene.strips.first[strip] * land.columns;
            int to = (scene.strips.last[strip] + 1) * land.columns;
            for (int n = from; n < to; n++) {
                int smoke = scene.smoke[n] + burn[n];
                int half = strength > 0 ? smoke / 2 : 0;
                int rest = smoke - half;
                drift[n] += rest - rest / 4;
                int target = half > 0 ? land.off(n, wind, 1) : UNKNOWN;
                if (target >= 0) {
                    drift[target] += half;
                    scene.passed += target < from || target >= to ? 1 : 0;
                }
            }
        }

        /** Only behind all strips, as smoke that came this step does not go on in it. */
        void layDownSmoke(Scene scene, Land land) {
            for (int n = 0; n < land.cells; n++) {
                scene.smoke[n] = drift[n];
                drift[n] = 0;
            }
        }
    }
}
