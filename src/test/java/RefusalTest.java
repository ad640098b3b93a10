/**
 * Terms: "Calls that are refused answer, the first of these that fits: UNKNOWN, OUTSIDE, STATE, FULL, NO. They change
 * nothing." Each refused call is made on one of two objects that were made alike; they must stay alike.
 */
public final class RefusalTest {
  private static final int UNKNOWN = HeathFire.UNKNOWN, OUTSIDE = HeathFire.OUTSIDE, STATE = HeathFire.STATE;
  private static final int FULL = HeathFire.FULL, NO = HeathFire.NO;
  private static final int LEAST = Integer.MIN_VALUE, MOST = Integer.MAX_VALUE;
  private static final int GRASS = 1, WOOD = 3, ROAD = 5;
  private static final int REST = 0, GO = 1, CUT = 2, DOUSE = 3, FILL = 4;
  private static final Due due = new Due("RefusalTest");

  private interface Setting {
    HeathFire make();
  }

  private interface Call {
    int on(HeathFire x);
  }

  public static void main(String[] args) {
    ofANewObject();
    whatWasToldStays();
    behindASTEP();
    whatCrewsRefuse();
    stripsAndStates();
    whereAllIsFull();
    whereGridOrCellWent();
    theLeastAndTheGreatestInts();
    due.end();
  }

  private static void refused(String name, Setting setting, Call call, int want) {
    now(name, setting, call, want);
    aFewSTEPSOn(name + ", STEPS on", setting, call);
    gone(name + ", clear and back", setting, call);
  }

  private static void now(String name, Setting setting, Call call, int want) {
    HeathFire x = setting.make();
    due.is(name, call.on(x), want);
    Look.alike(due, name, x, setting.make());
  }

  /** What was told to be lit, the weather, the seed and the plans show only in later STEPS. */
  private static void aFewSTEPSOn(String name, Setting setting, Call call) {
    HeathFire x = setting.make();
    HeathFire y = setting.make();
    call.on(x);
    due.is(name + " light", x.light(0, 9999), y.light(0, 9999));
    due.is(name + " weather", x.weather(9999, 0, 0, 0), y.weather(9999, 0, 0, 0));
    x.step(6);
    y.step(6);
    Look.alike(due, name, x, y);
    due.is(name + " seed", x.seed(0), y.seed(0));
    due.is(name + " balanced", x.balanced(false), y.balanced(false));
  }

  private static void gone(String name, Setting setting, Call call) {
    HeathFire x = setting.make();
    HeathFire y = setting.make();
    call.on(x);
    due.is(name + " clear", x.clear(), y.clear());
    x.step(2);
    y.step(2);
    for (int place = 0; place < 3; place++) {
      due.is(name + " back(" + place + ")", x.back(place), y.back(place));
    }
    x.step(1);
    y.step(1);
    Look.alike(due, name, x, y);
  }

  /** Cell 0 burns from STEP 0 on, and crew 1 on it is LOST there; crew 0 has a plan; place 0 is kept. */
  private static HeathFire ready() {
    HeathFire x = Make.even(3, 4, GRASS, 60, 5);
    x.cell(3, ROAD, 0, 0, 0);
    x.cell(5, WOOD, 90, 0, 12);
    x.cell(11, 0, 0, 0, 0);
    x.seed(41);
    x.weather(0, 3, 3, 0);
    x.weather(4, 1, 2, 1);
    x.light(0, 0);
    x.light(8, 2);
    x.strips(3);
    x.balanced(true);
    x.crew(10);
    x.crew(0);
    x.plan(0, FILL, 0);
    x.plan(0, GO, 6);
    x.plan(0, DOUSE, 0);
    x.plan(1, REST, 2);
    x.keep(0);
    return x;
  }

  private static HeathFire burning() {
    HeathFire x = ready();
    x.step(3);
    x.keep(1);
    return x;
  }

  private static HeathFire full() {
    HeathFire x = ready();
    for (int i = 2; i < 16; i++) {
      x.weather(5000, i % 8, 0, 0);
    }
    for (int i = 2; i < 20; i++) {
      x.light(i % 12, 5000);
    }
    for (int i = 2; i < 8; i++) {
      x.crew(10);
    }
    for (int i = 3; i < 12; i++) {
      x.plan(0, REST, 1);
    }
    return x;
  }

  private static HeathFire cellWent() {
    HeathFire x = ready();
    x.cell(7, GRASS, 60, 5, 10);
    x.keep(2);
    return x;
  }

  private static void ofANewObject() {
    Setting s = HeathFire::new;
    refused("new: grid(1, 2)", s, x -> x.grid(1, 2), OUTSIDE);
    refused("new: grid(2, 17)", s, x -> x.grid(2, 17), OUTSIDE);
    refused("new: cell(4, ..)", s, x -> x.cell(4, GRASS, 1, 1, 1), UNKNOWN);
    refused("new: cell(0, 6, ..)", s, x -> x.cell(0, 6, 1, 1, 1), OUTSIDE);
    refused("new: weather(-1, ..)", s, x -> x.weather(-1, 0, 0, 0), OUTSIDE);
    refused("new: light(4, 0)", s, x -> x.light(4, 0), UNKNOWN);
    refused("new: step(501)", s, x -> x.step(501), OUTSIDE);
    refused("new: about(4, 0)", s, x -> x.about(4, 0), UNKNOWN);
    refused("new: crew(0)", s, x -> x.crew(0), NO);
    refused("new: plan(0, 0, 1)", s, x -> x.plan(0, REST, 1), UNKNOWN);
    refused("new: halt(0)", s, x -> x.halt(0), UNKNOWN);
    refused("new: ofCrew(0, 0)", s, x -> x.ofCrew(0, 0), UNKNOWN);
    refused("new: strips(3)", s, x -> x.strips(3), OUTSIDE);
    refused("new: strip(1, 0)", s, x -> x.strip(1, 0), UNKNOWN);
    refused("new: keep(3)", s, x -> x.keep(3), UNKNOWN);
    refused("new: back(0)", s, x -> x.back(0), UNKNOWN);
    refused("new: differs(0)", s, x -> x.differs(0), UNKNOWN);
    refused("new: ahead(4, 0)", s, x -> x.ahead(4, 0), UNKNOWN);
  }

  private static void whatWasToldStays() {
    Setting s = RefusalTest::ready;
    refused("grid(17, 4)", s, x -> x.grid(17, 4), OUTSIDE);
    refused("grid(3, 1)", s, x -> x.grid(3, 1), OUTSIDE);
    refused("cell(12, ..)", s, x -> x.cell(12, GRASS, 1, 1, 1), UNKNOWN);
    refused("cell(-1, 6, ..), UNKNOWN ahead of OUTSIDE", s, x -> x.cell(-1, 6, 1, 1, 1), UNKNOWN);
    refused("cell FUEL 201", s, x -> x.cell(1, GRASS, 201, 1, 1), OUTSIDE);
    refused("cell DAMP 101", s, x -> x.cell(1, GRASS, 1, 101, 1), OUTSIDE);
    refused("cell HEIGHT 51", s, x -> x.cell(1, GRASS, 1, 1, 51), OUTSIDE);
    refused("cell WATER with FUEL", s, x -> x.cell(1, 0, 1, 1, 1), OUTSIDE);
    refused("cell ROAD with FUEL", s, x -> x.cell(1, ROAD, 1, 1, 1), OUTSIDE);
    refused("weather wind 8", s, x -> x.weather(0, 8, 0, 0), OUTSIDE);
    refused("weather strength 5", s, x -> x.weather(0, 0, 5, 0), OUTSIDE);
    refused("weather rain 10", s, x -> x.weather(0, 0, 0, 10), OUTSIDE);
    refused("weather step 10001", s, x -> x.weather(10001, 0, 0, 0), OUTSIDE);
    refused("light(12, -1), UNKNOWN ahead of OUTSIDE", s, x -> x.light(12, -1), UNKNOWN);
    refused("light(1, 10001)", s, x -> x.light(1, 10001), OUTSIDE);
    refused("step(-1)", s, x -> x.step(-1), OUTSIDE);
    refused("about(12, 8), UNKNOWN ahead of OUTSIDE", s, x -> x.about(12, 8), UNKNOWN);
    refused("about(11, 8)", s, x -> x.about(11, 8), OUTSIDE);
    refused("many(6)", s, x -> x.many(6), OUTSIDE);
    refused("told(14)", s, x -> x.told(14), OUTSIDE);
    refused("sky(-1, 0)", s, x -> x.sky(-1, 0), OUTSIDE);
    refused("sky(0, 3)", s, x -> x.sky(0, 3), OUTSIDE);
    refused("ahead(12, 201), UNKNOWN ahead of OUTSIDE", s, x -> x.ahead(12, 201), UNKNOWN);
    refused("ahead(2, 201)", s, x -> x.ahead(2, 201), OUTSIDE);
    refused("ahead(2, -1)", s, x -> x.ahead(2, -1), OUTSIDE);
  }

  private static void behindASTEP() {
    Setting s = RefusalTest::burning;
    refused("grid(3, 4)", s, x -> x.grid(3, 4), STATE);
    refused("grid(3, 17), OUTSIDE ahead of STATE", s, x -> x.grid(3, 17), OUTSIDE);
    refused("cell", s, x -> x.cell(1, GRASS, 60, 5, 10), STATE);
    refused("cell(12, ..), UNKNOWN ahead of STATE", s, x -> x.cell(12, GRASS, 60, 5, 10), UNKNOWN);
    refused("cell(12, 6, ..), UNKNOWN ahead of all", s, x -> x.cell(12, 6, 60, 5, 10), UNKNOWN);
    refused("cell(1, 6, ..), OUTSIDE ahead of STATE", s, x -> x.cell(1, 6, 60, 5, 10), OUTSIDE);
    refused("cell WATER with FUEL, OUTSIDE ahead of STATE", s, x -> x.cell(1, 0, 1, 0, 0), OUTSIDE);
    refused("weather, OUTSIDE", s, x -> x.weather(3, -1, 0, 0), OUTSIDE);
    refused("light, OUTSIDE", s, x -> x.light(6, -1), OUTSIDE);
    refused("light, UNKNOWN", s, x -> x.light(12, 3), UNKNOWN);
    refused("step(501)", s, x -> x.step(501), OUTSIDE);
  }

  private static void whatCrewsRefuse() {
    Setting s = RefusalTest::burning;
    refused("crew(12)", s, x -> x.crew(12), UNKNOWN);
    refused("crew on WATER", s, x -> x.crew(11), NO);
    refused("crew on ALIGHT", s, x -> x.crew(0), NO);
    refused("plan(2, ..)", s, x -> x.plan(2, CUT, 0), UNKNOWN);
    refused("plan(2, 6, 0), UNKNOWN ahead of OUTSIDE", s, x -> x.plan(2, 6, 0), UNKNOWN);
    refused("plan GO 12", s, x -> x.plan(0, GO, 12), UNKNOWN);
    refused("plan kind 6", s, x -> x.plan(0, 6, 0), OUTSIDE);
    refused("plan REST 101", s, x -> x.plan(0, REST, 101), OUTSIDE);
    refused("plan LOST", s, x -> x.plan(1, CUT, 0), STATE);
    refused("plan LOST GO 12, UNKNOWN ahead of STATE", s, x -> x.plan(1, GO, 12), UNKNOWN);
    refused("plan LOST REST 0, OUTSIDE ahead of STATE", s, x -> x.plan(1, REST, 0), OUTSIDE);
    refused("plan LOST kind -1, OUTSIDE ahead of STATE", s, x -> x.plan(1, -1, 0), OUTSIDE);
    refused("halt(2)", s, x -> x.halt(2), UNKNOWN);
    refused("halt LOST", s, x -> x.halt(1), STATE);
    refused("ofCrew(2, 8), UNKNOWN ahead of OUTSIDE", s, x -> x.ofCrew(2, 8), UNKNOWN);
    refused("ofCrew(1, 8)", s, x -> x.ofCrew(1, 8), OUTSIDE);
  }

  private static void stripsAndStates() {
    Setting s = RefusalTest::burning;
    refused("strips(0)", s, x -> x.strips(0), OUTSIDE);
    refused("strips(4) of 3 rows", s, x -> x.strips(4), OUTSIDE);
    refused("strips(9)", s, x -> x.strips(9), OUTSIDE);
    refused("strip(8, 3), UNKNOWN ahead of OUTSIDE", s, x -> x.strip(8, 3), UNKNOWN);
    refused("strip(0, 3)", s, x -> x.strip(0, 3), OUTSIDE);
    refused("keep(-1)", s, x -> x.keep(-1), UNKNOWN);
    refused("keep(3)", s, x -> x.keep(3), UNKNOWN);
    refused("back(2), nothing is there", s, x -> x.back(2), UNKNOWN);
    refused("differs(2), nothing is there", s, x -> x.differs(2), UNKNOWN);
    refused("back(-1)", s, x -> x.back(-1), UNKNOWN);
    refused("differs(3)", s, x -> x.differs(3), UNKNOWN);
  }

  private static void whereAllIsFull() {
    Setting s = RefusalTest::full;
    refused("17th entry", s, x -> x.weather(0, 0, 0, 9), FULL);
    refused("17th entry, OUTSIDE ahead of FULL", s, x -> x.weather(0, 0, 0, 10), OUTSIDE);
    refused("21st light", s, x -> x.light(1, 0), FULL);
    refused("21st light, UNKNOWN ahead of FULL", s, x -> x.light(12, 0), UNKNOWN);
    refused("21st light, OUTSIDE ahead of FULL", s, x -> x.light(1, -1), OUTSIDE);
    refused("9th crew", s, x -> x.crew(10), FULL);
    refused("9th crew, UNKNOWN ahead of FULL", s, x -> x.crew(12), UNKNOWN);
    refused("9th crew on WATER, FULL ahead of NO", s, x -> x.crew(11), FULL);
    refused("13th act", s, x -> x.plan(0, CUT, 0), FULL);
    refused("13th act, UNKNOWN ahead of FULL", s, x -> x.plan(0, GO, 12), UNKNOWN);
    refused("13th act, OUTSIDE ahead of FULL", s, x -> x.plan(0, REST, 101), OUTSIDE);
    HeathFire y = full();
    y.step(1);
    due.is("9th crew on ALIGHT, FULL ahead of NO", y.crew(0), FULL);
    due.is("LOST, STATE", y.plan(1, CUT, 0), STATE);
  }

  private static void whereGridOrCellWent() {
    Setting s = RefusalTest::cellWent;
    refused("back(0)", s, x -> x.back(0), STATE);
    refused("differs(0)", s, x -> x.differs(0), STATE);
    refused("back(1), nothing is there", s, x -> x.back(1), UNKNOWN);
    refused("differs(1), nothing is there", s, x -> x.differs(1), UNKNOWN);
    refused("back(3), UNKNOWN ahead of STATE", s, x -> x.back(3), UNKNOWN);
    refused("differs(-1), UNKNOWN ahead of STATE", s, x -> x.differs(-1), UNKNOWN);
  }

  private static void theLeastAndTheGreatestInts() {
    HeathFire x = burning();
    for (int e : new int[] {LEAST, MOST}) {
      String with = " with " + e;
      due.is("grid rows" + with, x.grid(e, 4), OUTSIDE);
      due.is("grid columns" + with, x.grid(4, e), OUTSIDE);
      due.is("cell" + with, x.cell(e, e, e, e, e), UNKNOWN);
      due.is("cell ground" + with, x.cell(0, e, 0, 0, 0), OUTSIDE);
      due.is("cell fuel" + with, x.cell(0, GRASS, e, 0, 0), OUTSIDE);
      due.is("cell damp" + with, x.cell(0, GRASS, 0, e, 0), OUTSIDE);
      due.is("cell height" + with, x.cell(0, GRASS, 0, 0, e), OUTSIDE);
      due.is("weather step" + with, x.weather(e, 0, 0, 0), OUTSIDE);
      due.is("weather wind" + with, x.weather(0, e, 0, 0), OUTSIDE);
      due.is("weather strength" + with, x.weather(0, 0, e, 0), OUTSIDE);
      due.is("weather rain" + with, x.weather(0, 0, 0, e), OUTSIDE);
      due.is("light" + with, x.light(e, e), UNKNOWN);
      due.is("light step" + with, x.light(0, e), OUTSIDE);
      due.is("step" + with, x.step(e), OUTSIDE);
      due.is("about" + with, x.about(e, e), UNKNOWN);
      due.is("about what" + with, x.about(0, e), OUTSIDE);
      due.is("many" + with, x.many(e), OUTSIDE);
      due.is("told" + with, x.told(e), OUTSIDE);
      due.is("sky what" + with, x.sky(0, e), OUTSIDE);
      due.is("front" + with, x.front(e), HeathFire.NONE);
      due.is("crew" + with, x.crew(e), UNKNOWN);
      due.is("plan crew" + with, x.plan(e, e, e), UNKNOWN);
      due.is("plan kind" + with, x.plan(0, e, 0), OUTSIDE);
      due.is("plan GO" + with, x.plan(0, GO, e), UNKNOWN);
      due.is("plan REST" + with, x.plan(0, REST, e), OUTSIDE);
      due.is("halt" + with, x.halt(e), UNKNOWN);
      due.is("ofCrew" + with, x.ofCrew(e, e), UNKNOWN);
      due.is("ofCrew what" + with, x.ofCrew(0, e), OUTSIDE);
      due.is("strips" + with, x.strips(e), OUTSIDE);
      due.is("strip" + with, x.strip(e, e), UNKNOWN);
      due.is("strip what" + with, x.strip(0, e), OUTSIDE);
      due.is("keep" + with, x.keep(e), UNKNOWN);
      due.is("back" + with, x.back(e), UNKNOWN);
      due.is("differs" + with, x.differs(e), UNKNOWN);
      due.is("ahead" + with, x.ahead(e, e), UNKNOWN);
      due.is("ahead n" + with, x.ahead(0, e), OUTSIDE);
    }
    due.is("sky(MIN, MIN)", x.sky(LEAST, LEAST), OUTSIDE);
    due.is("sky of a step below 0", x.sky(LEAST, 0), OUTSIDE);
    due.is("sky of the greatest step", x.sky(MOST, 1), 2);
    Look.alike(due, "behind them all", x, burning());
  }
}
