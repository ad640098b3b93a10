import java.util.stream.IntStream;

/** All that can be asked of an object without changing it. An object bears 512 calls, so look at one but once. */
final class Look {
  private Look() {
  }

  static void alike(Due due, String name, HeathFire x, HeathFire y) {
    int[] got = at(x);
    int[] want = at(y);
    due.is(name + ", how many answers", got.length, want.length);
    for (int i = 0; i < Math.min(got.length, want.length); i++) {
      due.is(name + ", answer " + i, got[i], want[i]);
    }
  }

  private static int[] at(HeathFire x) {
    IntStream.Builder row = IntStream.builder();
    int cells = x.told(0) * x.told(1);
    for (int what = 0; what < 14; what++) {
      row.add(x.told(what));
    }
    for (int n = 0; n < cells; n++) {
      for (int what = 0; what < 8; what++) {
        row.add(x.about(n, what));
      }
    }
    for (int state = 0; state < 6; state++) {
      row.add(x.many(state));
    }
    addFront(row, x, cells);
    addCrewsAndStrips(row, x);
    for (int place = 0; place < 3; place++) {
      row.add(x.differs(place));
    }
    for (int what = 0; what < 3; what++) {
      row.add(x.sky(0, what)).add(x.sky(10000, what));
    }
    return row.build().toArray();
  }

  private static void addFront(IntStream.Builder row, HeathFire x, int cells) {
    for (int i = 0; i <= cells; i++) {
      int n = x.front(i);
      row.add(n);
      if (n == HeathFire.NONE) {
        return;
      }
    }
  }

  private static void addCrewsAndStrips(IntStream.Builder row, HeathFire x) {
    int crews = x.told(4);
    for (int i = 0; i < crews; i++) {
      for (int what = 0; what < 8; what++) {
        row.add(x.ofCrew(i, what));
      }
    }
    int strips = x.told(5);
    for (int i = 0; i < strips; i++) {
      for (int what = 0; what < 3; what++) {
        row.add(x.strip(i, what));
      }
    }
  }
}
