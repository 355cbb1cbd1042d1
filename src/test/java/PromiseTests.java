/** Each promise of the document on its own: ordinary inputs, the edges it names, wrong inputs. */
public final class PromiseTests extends Edge {
  public static void main(String[] args) {
    rules();
    changes();
    transactions();
    lines();
    indexes();
    tallies();
    asked();
    end(args);
  }

  private static int asked(Tablehouse h, int table, String text) {
    return type(h, text).road(table, 0);
  }

  // ---- a new house, rules, indexes and the cube

  private static void rules() {
    promise1NewHouse();
    promise2Index();
    promise2IndexRefuses();
    promise2AllKindsOnOneColumn();
    promise3Unindex();
    promise4Need();
    promise5Check();
    promise6Link();
    promise6LinkRefuses();
    promise7Unlink();
    promise8Cube();
  }

  private static void promise1NewHouse() {
    Tablehouse h = new Tablehouse();
    for (int table = 0; table < 3; table++) {
      for (int what = 0; what <= 3; what++) {
        same(0, h.ofTable(table, what));
      }
      for (int column = 0; column < WIDTH[table]; column++) {
        int[] due = {0, 0, 0, 99, -1, -1, 0, 0, 0};
        for (int what = 0; what <= 8; what++) {
          same(due[what], h.ofColumn(table, column, what));
        }
      }
    }
    for (int what = 0; what <= 9; what++) {
      same(0, h.house(what));
    }
    is("", h::line);
    is(true, h::isSound);
    is(0, () -> h.addThree(1, 2, 3));
    same(0, new Tablehouse().ofTable(2, 0));
  }

  private static void promise2Index() {
    Tablehouse h = new Tablehouse();
    row(h, 1, 3, 5);
    row(h, 1, 14, 5);
    is(1, () -> h.index(1, 0, 0));
    looks(h, 0, () -> h.index(1, 0, 0));
    tells(h, -4, () -> h.index(1, 1, 0));
    is(0, () -> h.ofColumn(1, 1, 0));
    is(1, () -> h.index(1, 2, 0));
    is(1, () -> h.index(1, 1, 1));
    is(1, () -> h.index(1, 1, 2));
    is(6, () -> h.ofColumn(1, 1, 0));
    is(1, () -> h.whose(1, 0, 14));
    is(set(0, 1), () -> h.under(1, 1, 5));
    is(set(0, 1), () -> h.spelled(1, 1, 5, -1));
    is(0, () -> h.index(1, 1, 2));
    is(1, () -> h.index(1, 0, 1));
    is(1, () -> h.index(1, 0, 2));
    is(7, () -> h.ofColumn(1, 0, 0));
    tells(h, -4, () -> h.put(1, 0, 0, 14));
    is(1, () -> h.index(0, 5, 0));
    is(1, () -> h.index(2, 2, 2));
    is(true, h::isSound);
  }

  private static void promise2IndexRefuses() {
    Tablehouse h = new Tablehouse();
    refuses(h, OUT, () -> h.index(-1, 0, 0));
    refuses(h, OUT, () -> h.index(3, 0, 0));
    refuses(h, OUT, () -> h.index(Integer.MIN_VALUE, 0, 0));
    refuses(h, OUT, () -> h.index(0, -1, 0));
    refuses(h, OUT, () -> h.index(0, 6, 0));
    refuses(h, OUT, () -> h.index(1, 4, 9));
    refuses(h, OUT, () -> h.index(2, 3, 0));
    refuses(h, OUT, () -> h.index(0, Integer.MAX_VALUE, 0));
    refuses(h, BAD, () -> h.index(0, 0, -1));
    refuses(h, BAD, () -> h.index(0, 0, 3));
    h.index(0, 1, 1);
    h.begin();
    refuses(h, STATE, () -> h.index(0, 0, 0));
    refuses(h, STATE, () -> h.index(0, 1, 1));
    refuses(h, BAD, () -> h.index(0, 0, 3));
    refuses(h, OUT, () -> h.index(0, 6, 3));
    h.commit();
    is(1, () -> h.index(0, 0, 0));
  }

  private static void promise2AllKindsOnOneColumn() {
    Tablehouse h = new Tablehouse();
    is(1, () -> h.index(1, 0, 2));
    is(1, () -> h.index(1, 0, 0));
    is(1, () -> h.index(1, 0, 1));
    is(7, () -> h.ofColumn(1, 0, 0));
    row(h, 1, 0);
    row(h, 1);
    row(h, 1, 47);
    row(h, 1);
    type(h, "A!");
    for (int road = 0; road <= 3; road++) {
      same(set(1, 3), h.road(1, road));
    }
    h.put(1, 1, 0, 40);
    h.put(1, 0, 0, -1);
    for (int road = 0; road <= 3; road++) {
      same(set(0, 3), h.road(1, road));
    }
    is(-1, () -> h.whose(1, 0, 0));
    is(1, () -> h.whose(1, 0, 40));
    is(0, () -> h.under(1, 0, 0));
    is(set(1), () -> h.under(1, 0, 40));
    is(set(1, 2), () -> h.spelled(1, 0, 4, -1));
    is(true, h::isSound);
    h.drop(1, 3);
    is(set(0), () -> h.road(1, 1));
    is(true, h::isSound);
  }

  private static void promise3Unindex() {
    Tablehouse h = new Tablehouse();
    h.sow(1, 3, 10, 1);
    for (int kind = 0; kind <= 2; kind++) {
      int each = kind;
      is(false, () -> h.unindex(1, 0, each));
      is(1, () -> h.index(1, 0, each));
    }
    is(true, () -> h.unindex(1, 0, 1));
    is(5, () -> h.ofColumn(1, 0, 0));
    is(false, () -> h.unindex(1, 0, 1));
    is(true, () -> h.unindex(1, 0, 2));
    is(1, () -> h.link(1, 0, 1, 0, 0));
    refuses(h, STATE, () -> h.unindex(1, 0, 0));
    is(false, () -> h.unindex(1, 0, 2));
    h.unlink(1, 0);
    h.link(0, 0, 1, 0, 0);
    refuses(h, STATE, () -> h.unindex(1, 0, 0));
    h.unlink(0, 0);
    h.link(2, 2, 1, 0, 0);
    refuses(h, STATE, () -> h.unindex(1, 0, 0));
    h.unlink(2, 2);
    is(true, () -> h.unindex(1, 0, 0));
    is(0, () -> h.ofColumn(1, 0, 0));
    is(1, () -> h.put(1, 0, 0, 12));
    h.index(1, 0, 1);
    h.index(1, 0, 2);
    h.lens(1, 0, 0, 5);
    refuses(h, STATE, () -> h.unindex(1, 0, 1));
    is(true, () -> h.unindex(1, 0, 2));
    is(false, () -> h.unindex(1, 1, 1));
    h.shut();
    is(true, () -> h.unindex(1, 0, 1));
    refuses(h, OUT, () -> h.unindex(3, 0, 0));
    refuses(h, OUT, () -> h.unindex(1, 4, 3));
    refuses(h, BAD, () -> h.unindex(1, 0, 3));
    refuses(h, BAD, () -> h.unindex(1, 0, -1));
    h.begin();
    refuses(h, BAD, () -> h.unindex(1, 0, 3));
    refuses(h, STATE, () -> h.unindex(1, 0, 0));
  }

  private static void promise4Need() {
    Tablehouse h = new Tablehouse();
    h.addThree(1, -1, 3);
    is(1, () -> h.need(2, 0, true));
    is(1, () -> h.ofColumn(2, 0, 1));
    tells(h, -2, () -> h.need(2, 1, true));
    is(0, () -> h.ofColumn(2, 1, 1));
    is(1, () -> h.need(2, 1, false));
    is(1, () -> h.need(2, 0, true));
    tells(h, -2, () -> h.put(2, 0, 0, -1));
    is(1, () -> h.need(2, 0, false));
    is(0, () -> h.ofColumn(2, 0, 1));
    is(1, () -> h.put(2, 0, 0, -1));
    is(1, () -> h.need(0, 5, true));
    refuses(h, OUT, () -> h.need(2, 3, true));
    refuses(h, OUT, () -> h.need(-1, 0, true));
    refuses(h, OUT, () -> h.need(0, -1, false));
    h.begin();
    refuses(h, STATE, () -> h.need(0, 0, true));
    refuses(h, STATE, () -> h.need(2, 1, true));
    refuses(h, OUT, () -> h.need(2, 3, true));
  }

  private static void promise5Check() {
    Tablehouse h = new Tablehouse();
    row(h, 1, 20, 20);
    row(h, 1, 30);
    is(1, () -> h.check(1, 0, 20, 30));
    is(20, () -> h.ofColumn(1, 0, 2));
    is(30, () -> h.ofColumn(1, 0, 3));
    is(0, () -> h.ofColumn(1, 1, 2));
    tells(h, -3, () -> h.check(1, 0, 21, 30));
    tells(h, -3, () -> h.check(1, 0, 20, 29));
    is(1, () -> h.check(1, 1, 20, 20));
    is(1, () -> h.check(1, 2, 7, 8));
    tells(h, -3, () -> h.put(1, 0, 0, 31));
    tells(h, -3, () -> h.put(1, 0, 0, 19));
    is(1, () -> h.put(1, 0, 0, 29));
    is(1, () -> h.put(1, 0, 0, -1));
    is(1, () -> h.check(1, 0, 0, 99));
    is(1, () -> h.put(1, 0, 0, 99));
    refuses(h, OUT, () -> h.check(1, 4, 0, 99));
    refuses(h, OUT, () -> h.check(3, 0, -1, 99));
    refuses(h, BAD, () -> h.check(1, 0, -1, 99));
    refuses(h, BAD, () -> h.check(1, 0, 100, 100));
    refuses(h, BAD, () -> h.check(1, 0, 5, 4));
    refuses(h, BAD, () -> h.check(1, 0, 5, 100));
    is(1, () -> h.check(1, 3, 99, 99));
    is(1, () -> h.check(1, 3, 0, 0));
    h.begin();
    refuses(h, STATE, () -> h.check(1, 0, 0, 99));
    refuses(h, STATE, () -> h.check(1, 0, 0, 1));
    refuses(h, BAD, () -> h.check(1, 0, 5, 4));
  }

  private static void promise6Link() {
    Tablehouse h = new Tablehouse();
    h.addThree(4, 4, -1);
    h.addThree(5, 6, 5);
    h.index(2, 0, 0);
    tells(h, -5, () -> h.link(2, 1, 2, 0, 0));
    is(-1, () -> h.ofColumn(2, 1, 4));
    is(1, () -> h.link(2, 2, 2, 0, 2));
    is(2, () -> h.ofColumn(2, 2, 4));
    is(20, () -> h.ofColumn(2, 2, 5));
    is(1, () -> h.link(0, 5, 2, 0, 1));
    is(1, () -> h.ofColumn(0, 5, 4));
    is(1, () -> h.link(1, 3, 2, 0, 0));
    is(0, () -> h.ofColumn(1, 3, 4));
    tells(h, -5, () -> h.put(2, 0, 2, 6));
    is(1, () -> h.put(2, 0, 2, 4));
    tells(h, -5, () -> h.addSix(0, 0, 0, 0, 0, 6));
    is(0, () -> h.addSix(0, 0, 0, 0, 0, 5));
    // The value goes away under those that have it, which no kind of link lets a put do.
    tells(h, -5, () -> h.put(2, 1, 0, 7));
    is(1, () -> h.put(2, 0, 2, -1));
    is(1, () -> h.put(2, 0, 0, 8));
    h.index(1, 2, 0);
    is(1, () -> h.link(2, 0, 2, 0, 0));
    tells(h, -5, () -> h.link(2, 1, 1, 2, 0));
    is(1, () -> h.link(1, 2, 1, 2, 1));
    is(12, () -> h.ofColumn(1, 2, 5));
  }

  private static void promise6LinkRefuses() {
    Tablehouse h = new Tablehouse();
    h.index(1, 0, 0);
    h.index(1, 1, 1);
    h.link(0, 0, 1, 0, 0);
    refuses(h, OUT, () -> h.link(3, 0, 1, 0, 0));
    refuses(h, OUT, () -> h.link(0, 6, 1, 0, 0));
    refuses(h, OUT, () -> h.link(0, 1, -1, 0, 0));
    refuses(h, OUT, () -> h.link(0, 1, 1, 4, 7));
    refuses(h, OUT, () -> h.link(0, 1, 2, 3, 0));
    refuses(h, BAD, () -> h.link(0, 1, 1, 0, 3));
    refuses(h, BAD, () -> h.link(0, 0, 1, 0, -1));
    refuses(h, STATE, () -> h.link(0, 0, 1, 0, 0));
    refuses(h, STATE, () -> h.link(0, 1, 1, 1, 0));
    refuses(h, STATE, () -> h.link(0, 1, 1, 2, 0));
    h.addThree(1, 1, 1);
    tells(h, -5, () -> h.link(2, 0, 1, 0, 0));
    h.begin();
    refuses(h, STATE, () -> h.link(0, 1, 1, 0, 0));
    refuses(h, STATE, () -> h.link(2, 0, 1, 0, 0));
    refuses(h, BAD, () -> h.link(0, 1, 1, 0, 3));
    h.back();
    is(1, () -> h.link(0, 1, 1, 0, 0));
  }

  private static void promise7Unlink() {
    Tablehouse h = new Tablehouse();
    h.index(2, 0, 0);
    is(false, () -> h.unlink(1, 1));
    h.link(1, 1, 2, 0, 2);
    tells(h, -5, () -> row(h, 1, 1, 2));
    is(true, () -> h.unlink(1, 1));
    is(-1, () -> h.ofColumn(1, 1, 4));
    is(-1, () -> h.ofColumn(1, 1, 5));
    is(0, () -> row(h, 1, 1, 2));
    is(false, () -> h.unlink(1, 1));
    tells(h, -5, () -> h.link(1, 1, 2, 0, 2));
    h.addThree(2, 2, 2);
    is(1, () -> h.link(1, 1, 2, 0, 0));
    refuses(h, OUT, () -> h.unlink(1, 4));
    refuses(h, OUT, () -> h.unlink(-1, 0));
    refuses(h, OUT, () -> h.unlink(2, -1));
    h.begin();
    refuses(h, STATE, () -> h.unlink(1, 1));
    refuses(h, STATE, () -> h.unlink(1, 0));
    refuses(h, OUT, () -> h.unlink(1, 4));
  }

  private static void promise8Cube() {
    Tablehouse h = new Tablehouse();
    is(0, () -> h.cube(1, 0, 1, 2));
    row(h, 1, 1, 2, 3);
    row(h, 1, 1, 2, 4);
    // Apart only in the third: ANY there 4 cells, something there 4 twice.
    is(12, () -> h.house(9));
    is(8, () -> h.cube(1, 0, 1, 3));
    is(2, () -> h.cell(1, 2, -1));
    is(12, () -> h.cube(1, 1, 2, 3));
    is(1, () -> h.cell(2, 3, -1));
    is(0, () -> h.cell(1, -2, -2));
    is(0, () -> h.cube(0, 0, 1, 2));
    is(0, () -> h.cube(2, 0, 1, 2));
    h.addSix(1, 1, 1, 1, 1, 1);
    is(8, () -> h.cube(0, 1, 3, 5));
    refuses(h, OUT, () -> h.cube(3, 0, 1, 2));
    refuses(h, OUT, () -> h.cube(2, 1, 2, 3));
    refuses(h, OUT, () -> h.cube(2, 3, 1, 2));
    refuses(h, OUT, () -> h.cube(0, -1, 1, 2));
    refuses(h, OUT, () -> h.cube(0, 5, 6, 2));
    refuses(h, BAD, () -> h.cube(0, 1, 1, 2));
    refuses(h, BAD, () -> h.cube(0, 0, 2, 2));
    refuses(h, BAD, () -> h.cube(0, 2, 1, 3));
    refuses(h, BAD, () -> h.cube(0, 0, 3, 2));
    h.begin();
    refuses(h, STATE, () -> h.cube(0, 0, 1, 2));
    refuses(h, BAD, () -> h.cube(0, 2, 1, 0));
    refuses(h, OUT, () -> h.cube(1, 0, 1, 4));
    h.commit();
    is(8, () -> h.cube(0, 0, 1, 2));
  }

  // ---- changes

  private static void changes() {
    promise9AddSix();
    promise10AddFour();
    promise11AddThree();
    promise9To11Faults();
    promise12Sow();
    promise12SowRefuses();
    promise13Put();
    promise13PutRefuses();
    promise13EachColumnHasItsRules();
    promise14Drop();
    promise14DropTakesAlong();
    promise14DropInARing();
    promise14DropWholeHouse();
    promise14DropFaults();
    promise15Cut();
    promise16Alter();
    promise16AlterRefuses();
    promise17Shift();
    promise17ShiftRefuses();
  }

  private static void promise9AddSix() {
    Tablehouse h = new Tablehouse();
    is(0, () -> h.addSix(1, 2, 3, 4, 5, 6));
    is(1, () -> h.addSix(-1, 0, 99, -1, -1, -1));
    is(2, () -> h.addSix(1, 2, 3, 4, 5, 6));
    for (int column = 0; column < 6; column++) {
      same(column + 1, h.get(0, 0, column));
    }
    is(-1, () -> h.get(0, 1, 0));
    is(0, () -> h.get(0, 1, 1));
    is(99, () -> h.get(0, 1, 2));
    is(-1, () -> h.get(0, 1, 5));
    h.drop(0, 1);
    is(1, () -> h.addSix(7, 7, 7, 7, 7, 7));
    is(7, () -> h.get(0, 1, 5));
    for (int place = 0; place < 6; place++) {
      for (int wrongOne : new int[] {-2, 100}) {
        int[] v = new int[6];
        v[place] = wrongOne;
        refuses(h, BAD, () -> h.addSix(v[0], v[1], v[2], v[3], v[4], v[5]));
      }
    }
    for (int row = 3; row < 24; row++) {
      same(row, h.addSix(row, row, row, row, row, row));
    }
    refuses(h, STATE, () -> h.addSix(0, 0, 0, 0, 0, 0));
    refuses(h, BAD, () -> h.addSix(0, 0, 0, 0, 0, 100));
    h.drop(0, 23);
    is(23, () -> h.addSix(0, 0, 0, 0, 0, 0));
    is(0, () -> h.ofTable(1, 0));
    is(0, () -> h.ofTable(2, 0));
  }

  private static void promise10AddFour() {
    Tablehouse h = new Tablehouse();
    is(0, () -> h.addFour(9, 8, 7, 6));
    is(9, () -> h.get(1, 0, 0));
    is(8, () -> h.get(1, 0, 1));
    is(7, () -> h.get(1, 0, 2));
    is(6, () -> h.get(1, 0, 3));
    is(1, () -> h.addFour(-1, -1, -1, -1));
    is(-1, () -> h.get(1, 1, 3));
    for (int place = 0; place < 4; place++) {
      for (int wrongOne : new int[] {-2, 100, Integer.MIN_VALUE}) {
        int[] v = new int[4];
        v[place] = wrongOne;
        refuses(h, BAD, () -> h.addFour(v[0], v[1], v[2], v[3]));
      }
    }
    h.sow(1, 12, 0, 0);
    h.sow(1, 10, 0, 0);
    refuses(h, STATE, () -> h.addFour(1, 1, 1, 1));
    refuses(h, BAD, () -> h.addFour(1, 1, 1, -2));
    h.drop(1, 5);
    h.drop(1, 2);
    is(2, () -> h.addFour(1, 1, 1, 1));
    is(5, () -> h.addFour(1, 1, 1, 1));
    is(0, () -> h.ofTable(0, 0));
  }

  private static void promise11AddThree() {
    Tablehouse h = new Tablehouse();
    is(0, () -> h.addThree(9, 8, 7));
    is(9, () -> h.get(2, 0, 0));
    is(8, () -> h.get(2, 0, 1));
    is(7, () -> h.get(2, 0, 2));
    is(1, () -> h.addThree(-1, 99, 0));
    for (int place = 0; place < 3; place++) {
      for (int wrongOne : new int[] {-2, 100, Integer.MAX_VALUE}) {
        int[] v = new int[3];
        v[place] = wrongOne;
        refuses(h, BAD, () -> h.addThree(v[0], v[1], v[2]));
      }
    }
    for (int row = 2; row < 24; row++) {
      same(row, h.addThree(row, row, -1));
    }
    refuses(h, STATE, () -> h.addThree(1, 1, 1));
    refuses(h, BAD, () -> h.addThree(1, 100, 1));
    h.drop(2, 0);
    is(0, () -> h.addThree(-1, -1, -1));
  }

  /** Of several faults the one that is named first is told. */
  private static void promise9To11Faults() {
    Tablehouse h = new Tablehouse();
    h.index(1, 2, 0);
    h.link(1, 3, 1, 2, 0);
    is(0, () -> h.addFour(1, 10, 5, 5));
    h.need(1, 0, true);
    h.check(1, 1, 10, 20);
    tells(h, -2, () -> h.addFour(-1, 9, 5, 6));
    tells(h, -3, () -> h.addFour(0, 9, 5, 6));
    tells(h, -3, () -> h.addFour(0, 21, 5, 6));
    tells(h, -4, () -> h.addFour(0, 20, 5, 6));
    tells(h, -5, () -> h.addFour(0, 20, 6, 7));
    is(1, () -> h.addFour(0, 20, 6, 6));
    is(2, () -> h.addFour(0, -1, -1, -1));
    is(3, () -> h.addFour(0, -1, -1, 6));
    is(5, () -> h.house(7));
    h.need(0, 5, true);
    h.check(2, 0, 0, 50);
    tells(h, -2, () -> h.addSix(0, 0, 0, 0, 0, -1));
    tells(h, -3, () -> h.addThree(51, 0, 0));
    for (int row = 4; row < 24; row++) {
      h.addFour(0, -1, -1, -1);
    }
    refuses(h, STATE, () -> h.addFour(-1, 9, 5, 6));
  }

  /** The rules hold in every column of every table. */
  private static void promise13EachColumnHasItsRules() {
    for (int table = 0; table < 3; table++) {
      for (int column = 0; column < WIDTH[table]; column++) {
        Tablehouse h = new Tablehouse();
        int t = table;
        int c = column;
        h.sow(t, 3, 10, 10);
        int first = h.get(t, 0, c);
        h.need(t, c, true);
        h.check(t, c, first, first + 20);
        h.index(t, c, 0);
        h.link(t, c, t, c, 0);
        tells(h, -2, () -> h.put(t, 1, c, -1));
        tells(h, -3, () -> h.put(t, 1, c, first - 1));
        tells(h, -3, () -> h.put(t, 1, c, first + 21));
        tells(h, -4, () -> h.put(t, 1, c, first));
        is(1, () -> h.put(t, 1, c, first + 1));
        int other = c == 0 ? 1 : 0;
        h.put(t, 2, other, first);
        h.link(t, other, t, c, 2);
        is(-1, () -> h.ofColumn(t, other, 4));
        h.put(t, 0, other, -1);
        h.put(t, 1, other, -1);
        is(1, () -> h.link(t, other, t, c, 2));
        tells(h, -5, () -> h.put(t, 2, other, first + 15));
        is(1, () -> h.drop(t, 0));
        is(-1, () -> h.get(t, 2, other));
        is(set(1, 2), () -> type(h, (char) ('A' + c) + ">0").road(t, 2));
        is(true, h::isSound);
      }
    }
  }

  private static void promise12Sow() {
    Tablehouse h = new Tablehouse();
    is(3, () -> h.sow(0, 3, 80, 9));
    int[][] due = {{80, 87, 94, 1, 8, 15}, {89, 96, 3, 10, 17, 24}, {98, 5, 12, 19, 26, 33}};
    for (int row = 0; row < 3; row++) {
      for (int column = 0; column < 6; column++) {
        same(due[row][column], h.get(0, row, column));
      }
    }
    is(12, () -> h.sow(1, 12, 99, 99));
    is(99, () -> h.get(1, 0, 0));
    is(88, () -> h.get(1, 11, 0));
    is(9, () -> h.get(1, 11, 3));
    h.drop(0, 1);
    is(2, () -> h.sow(0, 2, 0, 1));
    is(0, () -> h.get(0, 1, 0));
    is(1, () -> h.get(0, 3, 0));
    h.index(2, 0, 0);
    tells(h, -4, () -> h.sow(2, 2, 5, 0));
    tells(h, -4, () -> h.sow(2, 12, 5, 50));
    is(1, () -> h.sow(2, 1, 5, 0));
    h.check(2, 1, 12, 20);
    tells(h, -3, () -> h.sow(2, 3, 6, 4));
    is(2, () -> h.sow(2, 2, 6, 4));
    h.need(2, 0, true);
    is(1, () -> h.sow(2, 1, 8, 0));
    // Each row finds its value in the row behind it, the last in one that was there.
    Tablehouse g = new Tablehouse();
    row(g, 1, 40);
    g.index(1, 0, 0);
    g.link(1, 1, 1, 0, 0);
    tells(g, -5, () -> g.sow(1, 3, 20, 7));
    is(3, () -> g.sow(1, 3, 19, 7));
    is(40, () -> g.get(1, 3, 1));
  }

  private static void promise12SowRefuses() {
    Tablehouse h = new Tablehouse();
    refuses(h, OUT, () -> h.sow(3, 1, 0, 0));
    refuses(h, OUT, () -> h.sow(-1, 0, 0, 0));
    refuses(h, BAD, () -> h.sow(0, 0, 0, 0));
    refuses(h, BAD, () -> h.sow(0, 13, 0, 0));
    refuses(h, BAD, () -> h.sow(0, 1, -1, 0));
    refuses(h, BAD, () -> h.sow(0, 1, 100, 0));
    refuses(h, BAD, () -> h.sow(0, 1, 0, -1));
    refuses(h, BAD, () -> h.sow(0, 1, 0, 100));
    h.index(0, 0, 0);
    is(12, () -> h.sow(0, 12, 0, 1));
    is(9, () -> h.sow(0, 9, 12, 1));
    refuses(h, STATE, () -> h.sow(0, 4, 50, 1));
    refuses(h, STATE, () -> h.sow(0, 4, 0, 0));
    refuses(h, BAD, () -> h.sow(0, 13, 50, 1));
    is(3, () -> h.sow(0, 3, 50, 1));
    refuses(h, STATE, () -> h.sow(0, 1, 60, 1));
    is(24, () -> h.ofTable(0, 0));
  }

  private static void promise13Put() {
    Tablehouse h = new Tablehouse();
    h.addThree(1, 2, 3);
    h.addThree(4, 5, 6);
    is(1, () -> h.put(2, 0, 1, 9));
    is(9, () -> h.get(2, 0, 1));
    is(1, () -> h.get(2, 0, 0));
    is(5, () -> h.get(2, 1, 1));
    is(0, () -> h.put(2, 0, 1, 9));
    is(1, () -> h.put(2, 0, 1, -1));
    is(-1, () -> h.get(2, 0, 1));
    is(0, () -> h.put(2, 0, 1, -1));
    h.index(2, 0, 0);
    tells(h, -4, () -> h.put(2, 0, 0, 4));
    is(0, () -> h.put(2, 0, 0, 1));
    is(1, () -> h.put(2, 0, 0, 0));
    is(0, () -> h.whose(2, 0, 0));
    is(-1, () -> h.whose(2, 0, 1));
    h.need(2, 2, true);
    h.check(2, 2, 0, 50);
    tells(h, -2, () -> h.put(2, 0, 2, -1));
    tells(h, -3, () -> h.put(2, 0, 2, 51));
    h.link(0, 0, 2, 0, 1);
    h.addSix(4, 0, 0, 0, 0, 0);
    tells(h, -5, () -> h.put(2, 1, 0, 7));
    tells(h, -5, () -> h.put(2, 1, 0, -1));
    tells(h, -5, () -> h.put(0, 0, 0, 7));
    is(1, () -> h.put(0, 0, 0, -1));
    is(1, () -> h.put(2, 1, 0, -1));
    is(1, () -> h.put(2, 0, 0, -1));
  }

  private static void promise13PutRefuses() {
    Tablehouse h = new Tablehouse();
    h.addThree(1, 2, 3);
    refuses(h, OUT, () -> h.put(3, 0, 0, 0));
    refuses(h, OUT, () -> h.put(-1, 0, 0, 0));
    refuses(h, OUT, () -> h.put(2, 1, 0, 0));
    refuses(h, OUT, () -> h.put(2, -1, 0, 0));
    refuses(h, OUT, () -> h.put(2, 24, 0, 0));
    refuses(h, OUT, () -> h.put(2, 32, 0, 0));
    refuses(h, OUT, () -> h.put(0, 0, 0, 0));
    refuses(h, OUT, () -> h.put(2, 0, 3, 0));
    refuses(h, OUT, () -> h.put(2, 0, -1, 100));
    refuses(h, BAD, () -> h.put(2, 0, 0, 100));
    refuses(h, BAD, () -> h.put(2, 0, 0, -2));
    h.drop(2, 0);
    refuses(h, OUT, () -> h.put(2, 0, 0, 0));
  }

  private static void promise14Drop() {
    Tablehouse h = new Tablehouse();
    h.sow(1, 3, 0, 1);
    is(1, () -> h.drop(1, 1));
    is(set(0, 2), () -> h.ofTable(1, 1));
    refuses(h, OUT, () -> h.drop(1, 1));
    refuses(h, OUT, () -> h.drop(1, 3));
    refuses(h, OUT, () -> h.drop(1, -1));
    refuses(h, OUT, () -> h.drop(1, 24));
    refuses(h, OUT, () -> h.drop(1, 34));
    refuses(h, OUT, () -> h.drop(-1, 0));
    refuses(h, OUT, () -> h.drop(3, 0));
    refuses(h, OUT, () -> h.drop(0, 0));
    is(2, () -> h.get(1, 2, 0));
    is(1, () -> h.drop(1, 0));
    is(1, () -> h.drop(1, 2));
    is(0, () -> h.ofTable(1, 0));
  }

  /** Falls from table 1 to 0 and on to 2; other columns let go; unlinked equals stay. */
  private static void promise14DropTakesAlong() {
    Tablehouse h = new Tablehouse();
    h.index(1, 0, 0);
    h.index(0, 0, 0);
    h.index(0, 5, 0);
    h.link(0, 1, 1, 0, 1);
    h.link(2, 0, 0, 0, 1);
    h.link(2, 1, 0, 5, 2);
    h.link(1, 1, 0, 0, 2);
    row(h, 1, 50, -1, 50);
    row(h, 1, 60, -1, 50);
    h.addSix(10, 50, 50, 50, 50, 11);
    h.addSix(11, 60, 50, 50, 50, 10);
    h.addSix(12, 50, 60, 60, 60, 60);
    h.addThree(10, 10, 10);
    h.addThree(11, 11, 10);
    h.addThree(11, 60, 10);
    h.addThree(-1, -1, -1);
    h.put(1, 1, 1, 12);
    h.index(2, 1, 1);
    h.begin();
    // Out: row 0 of table 1, rows 0 and 2 of table 0, row 0 of table 2.
    is(4, () -> h.drop(1, 0));
    is(set(1), () -> h.ofTable(1, 1));
    is(set(1), () -> h.ofTable(0, 1));
    is(set(1, 2, 3), () -> h.ofTable(2, 1));
    // Let go: table 1 row 1 (of 12), table 2 row 1 (of 11), row 2 (of 60).
    is(-1, () -> h.get(1, 1, 1));
    is(50, () -> h.get(1, 1, 2));
    is(-1, () -> h.get(2, 1, 1));
    is(-1, () -> h.get(2, 2, 1));
    is(11, () -> h.get(2, 2, 0));
    is(10, () -> h.get(0, 1, 5));
    is(set(1, 2, 3), () -> type(h, "B!").road(2, 1));
    is(true, h::isSound);
    is(7, () -> h.house(1));
    is(7, h::commit);
  }

  private static void promise14DropInARing() {
    Tablehouse h = new Tablehouse();
    h.index(2, 0, 0);
    h.addThree(1, -1, -1);
    h.addThree(2, 1, -1);
    h.addThree(3, 2, 3);
    h.addThree(4, 3, 1);
    h.put(2, 0, 1, 4);
    h.addThree(5, 5, 5);
    h.link(2, 1, 2, 0, 1);
    h.link(2, 2, 2, 0, 0);
    // What holds goes along itself.
    is(4, () -> h.drop(2, 2));
    is(set(4), () -> h.ofTable(2, 1));
    is(1, () -> h.drop(2, 4));
    is(0, () -> h.ofTable(2, 0));
  }

  /** Row k of table 0 leads to table 1, that to table 2, and that to row k - 1 of table 0. */
  private static void promise14DropWholeHouse() {
    Tablehouse h = new Tablehouse();
    for (int table = 0; table <= 2; table++) {
      h.index(table, 0, 0);
    }
    h.link(2, 1, 0, 0, 1);
    h.link(1, 1, 2, 0, 1);
    h.link(0, 1, 1, 0, 1);
    for (int k = 0; k < 24; k++) {
      h.addSix(k, k - 1, 0, 0, 0, 0);
      h.addThree(k, k, 0);
      row(h, 1, k, k, 0, 0);
    }
    h.begin();
    is(3, () -> h.drop(0, 23));
    is(34, () -> h.drop(1, 11));
    is(37, h::back);
    h.begin();
    is(72, () -> h.drop(0, 0));
    is(0, () -> h.ofTable(0, 0) + h.ofTable(1, 0) + h.ofTable(2, 0));
    is(true, h::isSound);
    is(72, h::back);
    is(true, h::isSound);
    h.unlink(0, 1);
    is(3, () -> h.drop(0, 0));
    is(2, () -> h.drop(2, 23));
    is(23, () -> h.ofTable(0, 0));
  }

  private static void promise14DropFaults() {
    Tablehouse h = new Tablehouse();
    h.index(1, 0, 0);
    row(h, 1, 1);
    row(h, 1, 2);
    row(h, 1, 3);
    h.link(2, 0, 1, 0, 0);
    h.link(2, 1, 1, 0, 2);
    h.link(0, 0, 1, 0, 1);
    h.addThree(1, 2, 0);
    h.addSix(1, 0, 0, 0, 0, 0);
    h.addSix(3, 0, 0, 0, 0, 0);
    tells(h, -5, () -> h.drop(1, 0));
    h.need(2, 1, true);
    tells(h, -2, () -> h.drop(1, 1));
    is(2, () -> h.drop(1, 2));
    is(set(0), () -> h.ofTable(0, 1));
    h.need(2, 1, false);
    is(1, () -> h.drop(1, 1));
    is(-1, () -> h.get(2, 0, 1));
    is(1, () -> h.get(2, 0, 0));
    h.put(2, 0, 0, -1);
    is(2, () -> h.drop(1, 0));
    is(0, () -> h.ofTable(0, 0));
    // -2 goes ahead of -5.
    Tablehouse g = new Tablehouse();
    g.index(1, 0, 0);
    row(g, 1, 1);
    g.link(2, 0, 1, 0, 0);
    g.link(2, 1, 1, 0, 2);
    g.addThree(1, 1, 1);
    g.need(2, 1, true);
    tells(g, -2, () -> g.drop(1, 0));
    g.need(2, 1, false);
    tells(g, -5, () -> g.drop(1, 0));
  }

  private static void promise15Cut() {
    Tablehouse h = new Tablehouse();
    h.sow(1, 6, 0, 1);
    h.sow(2, 3, 0, 1);
    h.index(1, 0, 0);
    h.link(2, 0, 1, 0, 1);
    type(h, "A=9");
    is(0, () -> h.cut(1));
    type(h, "A>1&A<4|A=5");
    is(4, () -> h.cut(1));
    is(set(0, 1, 4), () -> h.ofTable(1, 1));
    is(set(0, 1), () -> h.ofTable(2, 1));
    is("A>1&A<4|A=5", h::line);
    h.unlink(2, 0);
    h.link(2, 0, 1, 0, 0);
    type(h, "A<5");
    tells(h, -5, () -> h.cut(1));
    is(2, () -> h.cut(2));
    is(3, () -> h.cut(1));
    type(h, "-A!");
    is(0, () -> h.cut(0));
    refuses(h, OUT, () -> h.cut(3));
    refuses(h, OUT, () -> h.cut(-1));
    type(h, "D=1");
    refuses(h, STATE, () -> h.cut(2));
    refuses(h, OUT, () -> h.cut(3));
    is(0, () -> h.cut(1));
    type(h, "");
    refuses(h, STATE, () -> h.cut(0));
    type(h, "A=");
    refuses(h, STATE, () -> h.cut(0));
  }

  private static void promise16Alter() {
    Tablehouse h = new Tablehouse();
    h.sow(1, 5, 0, 1);
    type(h, "A>2|A=0");
    is(3, () -> h.alter(1, 1, 44));
    is(44, () -> h.get(1, 0, 1));
    is(8, () -> h.get(1, 1, 1));
    is(44, () -> h.get(1, 3, 1));
    is(44, () -> h.get(1, 4, 1));
    is(0, () -> h.alter(1, 1, 44));
    is(2, () -> h.alter(1, 0, 0));
    is(0, () -> h.get(1, 3, 0));
    is(3, () -> h.alter(1, 2, -1));
    is(-1, () -> h.get(1, 0, 2));
    is(15, () -> h.get(1, 1, 2));
    is(-1, () -> h.get(1, 3, 2));
    type(h, "B=99");
    is(0, () -> h.alter(1, 3, 1));
    h.index(1, 3, 0);
    type(h, "D>20");
    tells(h, -4, () -> h.alter(1, 3, 22));
    is(5, () -> h.alter(1, 3, -1));
    h.need(1, 1, true);
    h.check(1, 1, 0, 50);
    type(h, "-A=77");
    tells(h, -2, () -> h.alter(1, 1, -1));
    tells(h, -3, () -> h.alter(1, 1, 51));
    h.link(0, 0, 1, 3, 2);
    h.sow(0, 1, 60, 0);
    is(0, () -> h.ofTable(0, 0));
    type(h, "C=B");
    h.put(1, 1, 2, 8);
    is(1, () -> h.alter(1, 3, 60));
    h.addSix(60, 1, 1, 1, 1, 1);
    tells(h, -5, () -> h.alter(1, 3, -1));
    tells(h, -5, () -> h.alter(1, 3, 61));
    is(true, h::isSound);
  }

  private static void promise16AlterRefuses() {
    Tablehouse h = new Tablehouse();
    h.sow(2, 2, 0, 1);
    type(h, "A!");
    refuses(h, OUT, () -> h.alter(3, 0, 0));
    refuses(h, OUT, () -> h.alter(2, 3, 100));
    refuses(h, OUT, () -> h.alter(1, -1, 0));
    refuses(h, BAD, () -> h.alter(2, 0, 100));
    refuses(h, BAD, () -> h.alter(2, 0, -2));
    is(0, () -> h.alter(2, 0, 99));
    type(h, "A!!");
    refuses(h, STATE, () -> h.alter(2, 0, 0));
    refuses(h, BAD, () -> h.alter(2, 0, 100));
    refuses(h, OUT, () -> h.alter(2, 3, 0));
    type(h, "F>0");
    refuses(h, STATE, () -> h.alter(1, 0, 0));
    is(0, () -> h.alter(0, 5, 0));
  }

  private static void promise17Shift() {
    Tablehouse h = new Tablehouse();
    h.addThree(98, 0, 0);
    h.addThree(99, 0, 0);
    h.addThree(0, 1, 0);
    h.addThree(-1, 1, 0);
    h.index(2, 0, 0);
    type(h, "C=0");
    // Round by one, all at once: each takes over the value of the next.
    is(3, () -> h.shift(2, 0, 1));
    is(99, () -> h.get(2, 0, 0));
    is(0, () -> h.get(2, 1, 0));
    is(1, () -> h.get(2, 2, 0));
    is(-1, () -> h.get(2, 3, 0));
    is(1, () -> h.whose(2, 0, 0));
    is(-1, () -> h.whose(2, 0, 98));
    is(0, () -> h.shift(2, 0, 0));
    type(h, "B=0");
    tells(h, -4, () -> h.shift(2, 0, 1));
    is(2, () -> h.shift(2, 0, 99));
    is(98, () -> h.get(2, 0, 0));
    is(99, () -> h.get(2, 1, 0));
    type(h, "A!");
    is(0, () -> h.shift(2, 0, 5));
    is(1, () -> h.shift(2, 1, 5));
    is(6, () -> h.get(2, 3, 1));
    h.check(2, 1, 0, 6);
    tells(h, -3, () -> h.shift(2, 1, 1));
    is(0, () -> h.shift(2, 0, 9));
    is(1, () -> h.shift(2, 2, 9));
    is(6, () -> h.get(2, 3, 1));
    h.begin();
    h.put(2, 0, 2, 70);
    h.back();
    is(1, () -> h.shift(2, 2, 1));
    is(0, () -> h.get(2, 0, 2));
    // A column that leads to itself goes with its key; another does not.
    Tablehouse g = new Tablehouse();
    g.sow(1, 3, 0, 1);
    g.index(1, 0, 0);
    g.link(1, 0, 1, 0, 0);
    type(g, "-A!");
    is(3, () -> g.shift(1, 0, 50));
    g.link(0, 3, 1, 0, 1);
    g.addSix(-1, -1, -1, 50, -1, -1);
    tells(g, -5, () -> g.shift(1, 0, 50));
    is(3, () -> g.shift(1, 0, 99));
    is(true, g::isSound);
  }

  private static void promise17ShiftRefuses() {
    Tablehouse h = new Tablehouse();
    h.sow(2, 2, 0, 1);
    type(h, "A=0");
    refuses(h, OUT, () -> h.shift(-1, 0, 0));
    refuses(h, OUT, () -> h.shift(2, 3, 100));
    refuses(h, BAD, () -> h.shift(2, 0, -1));
    refuses(h, BAD, () -> h.shift(2, 0, 100));
    type(h, "A=0&");
    refuses(h, STATE, () -> h.shift(2, 0, 1));
    refuses(h, BAD, () -> h.shift(2, 0, 100));
    refuses(h, OUT, () -> h.shift(2, 3, 1));
  }

  // ---- transactions

  private static void transactions() {
    promise18Begin();
    promise19Commit();
    promise20Back();
    promise20BackBringsAnswersAgain();
    promise20BackLeavesTheRest();
    promise18To20Nested();
  }

  private static void promise18Begin() {
    Tablehouse h = new Tablehouse();
    is(1, h::begin);
    is(2, h::begin);
    is(3, h::begin);
    is(3, () -> h.house(0));
    refuses(h, STATE, h::begin);
    h.commit();
    is(2, () -> h.house(0));
    is(3, h::begin);
    h.back();
    h.back();
    is(2, h::begin);
    is(0, () -> h.house(1));
  }

  private static void promise19Commit() {
    Tablehouse h = new Tablehouse();
    refuses(h, STATE, h::commit);
    h.sow(1, 4, 0, 1);
    h.begin();
    is(0, h::commit);
    refuses(h, STATE, h::commit);
    h.begin();
    h.sow(2, 3, 0, 1);
    h.put(1, 0, 0, 50);
    h.put(1, 0, 0, 50);
    h.put(1, 0, 0, 51);
    h.drop(1, 3);
    is(6, () -> h.house(1));
    int stamp = h.stamp();
    is(6, h::commit);
    is(stamp, h::stamp);
    is(0, () -> h.house(1));
    is(0, () -> h.house(0));
    is(51, () -> h.get(1, 0, 0));
  }

  private static void promise20Back() {
    Tablehouse h = new Tablehouse();
    refuses(h, STATE, h::back);
    h.index(1, 0, 0);
    h.index(1, 1, 1);
    h.index(1, 2, 2);
    h.index(2, 1, 1);
    h.link(2, 0, 1, 0, 1);
    h.link(2, 1, 1, 0, 2);
    h.cube(1, 0, 1, 2);
    h.sow(1, 5, 0, 1);
    h.addThree(0, 1, 5);
    h.addThree(1, 0, 6);
    h.addThree(2, 3, 7);
    is(2, () -> h.drop(1, 2));
    int stamp = h.stamp();
    long digest = h.digest();
    is(1, h::begin);
    is(0, h::back);
    is(digest, h::digest);
    h.begin();
    is(2, () -> h.sow(1, 2, 60, 1));
    is(2, () -> h.drop(1, 1));
    is(1, () -> h.put(2, 0, 0, -1));
    is(1, () -> h.put(1, 0, 2, -1));
    type(h, "A>2");
    is(4, () -> h.shift(1, 1, 20));
    is(4, () -> h.cut(1));
    is(true, h::isSound);
    same(true, stamp != h.stamp());
    is(2 + 3 + 1 + 1 + 4 + 4, h::back);
    is(stamp, h::stamp);
    is(true, h::isSound);
    is(0, () -> h.house(0));
    is(0, () -> h.house(1));
    is(2, () -> h.ofTable(1, 2));
    refuses(h, STATE, h::back);
  }

  private static void promise20BackBringsAnswersAgain() {
    Tablehouse h = new Tablehouse();
    h.sow(1, 4, 0, 1);
    String[] texts = {"A=1", "B=9", "A>1", "-A!", "C!"};
    for (String text : texts) {
      type(h, text).ask(1);
    }
    type(h, "A=1").ask(1);
    int stamp = h.stamp();
    h.begin();
    type(h, "D!").ask(1);
    type(h, "A>1").ask(1);
    is(1, () -> h.house(6));
    h.put(1, 0, 0, 40);
    is(3, () -> h.house(5));
    is(2, () -> h.house(4));
    type(h, "E=1").ask(0);
    h.drop(1, 1);
    is(5, () -> h.house(5));
    is(1, () -> h.house(4));
    h.back();
    is(stamp, h::stamp);
    is(5, () -> h.house(4));
    // The eldest was "B=9", since "A=1" was asked again.
    is(set(1), () -> h.kept(0, 2));
    is(set(0), () -> h.kept(4, 2));
    is(set(1), () -> h.kept(4, 1));
    is(false, () -> h.isKept(0));
    is(true, () -> type(h, "A=1").isKept(1));
    is(false, () -> type(h, "D!").isKept(1));
    is(1, () -> h.house(6));
    is(5, () -> h.house(5));
    is(2, () -> h.house(2));
    is(7, () -> h.house(3));
    is(true, h::isSound);
    // An answer kept since begin() goes, even if no change was made.
    h.begin();
    type(h, "D!").ask(1);
    is(0, h::back);
    is(stamp, h::stamp);
    is(false, () -> h.isKept(1));
    h.begin();
    type(h, "D!").ask(1);
    is(0, h::commit);
    is(true, () -> h.isKept(1));
  }

  private static void promise20BackLeavesTheRest() {
    Tablehouse h = new Tablehouse();
    h.index(1, 0, 1);
    h.index(1, 0, 0);
    h.lens(1, 0, 0, 50);
    h.begin();
    h.sow(1, 3, 0, 1);
    type(h, "A=1");
    h.narrow(0, 1, 40);
    h.lens(1, 0, 5, 6);
    is(-4, () -> h.sow(1, 1, 0, 0));
    h.knock();
    h.ask(1);
    h.ask(1);
    h.back();
    is("A=1", h::line);
    is(2, () -> h.house(8));
    is(1, () -> h.ofLens(0, 0));
    is(40, () -> h.ofLens(0, 1));
    is(0, () -> h.ofLens(0, 2));
    is(1, () -> h.house(7));
    is(2, h::knock);
    is(1, () -> h.house(2));
    is(1, () -> h.house(3));
    is(0, () -> h.house(4));
    is(0, () -> h.house(5));
  }

  private static void promise18To20Nested() {
    Tablehouse h = new Tablehouse();
    h.begin();
    h.sow(1, 2, 0, 1);
    h.begin();
    h.sow(1, 3, 10, 1);
    h.begin();
    h.sow(1, 4, 20, 1);
    is(9, () -> h.house(1));
    is(4, h::commit);
    is(9, () -> h.house(1));
    h.begin();
    h.put(1, 0, 0, 77);
    is(10, () -> h.house(1));
    is(1, h::back);
    is(9, () -> h.house(1));
    is(0, () -> h.get(1, 0, 0));
    is(7, h::commit);
    h.begin();
    h.drop(1, 0);
    is(1, h::back);
    is(9, h::commit);
    is(9, () -> h.ofTable(1, 0));
    // What an inner one keeps goes with the outer one.
    h.begin();
    h.begin();
    h.drop(1, 8);
    is(1, h::commit);
    h.drop(1, 7);
    is(2, h::back);
    is(9, () -> h.ofTable(1, 0));
    is(0, () -> h.house(0));
  }

  // ---- the line and its answers

  private static void lines() {
    promise21Say();
    promise22Line();
    promise23Breaks();
    promise23BreaksByTable();
    promise24Ask();
    promise24AskKeepsFive();
    promise24AskWhatChangesTakeOut();
    promise24AskWhatIsLetGoTakesOut();
    promise25RoadConditions();
    promise25RoadBinding();
    promise25RoadsAgree();
    promise26Plan();
    promise27Cost();
    promise28IsKept();
    promise29Kept();
    promise29KeptOfLongAndShortTexts();
    promise30Scratch();
  }

  private static void promise21Say() {
    Tablehouse h = new Tablehouse();
    is(0, () -> h.say(-1, -1, -1, -1, -1, -1));
    is(6, () -> h.say(10, 16, 4, 7, 21, 23));
    is(7, () -> h.say(-1, -1, 24, -1, -1, -1));
    is("A=47&-(", h::line);
    is(1, () -> h.say(9, 9, 26, 8, -1, -1));
    is("8", h::line);
    is(0, () -> h.say(1, 2, 3, 4, 5, 26));
    is("", h::line);
    for (int place = 0; place < 6; place++) {
      for (int code : new int[] {-2, 27}) {
        int[] v = {-1, -1, -1, -1, -1, -1};
        v[place] = code;
        refuses(h, BAD, () -> h.say(v[0], v[1], v[2], v[3], v[4], v[5]));
      }
    }
    for (int length = 6; length <= 36; length += 6) {
      same(length, h.say(1, 2, 3, 4, 5, 6));
    }
    refuses(h, STATE, () -> h.say(1, 2, 3, 4, 5, -1));
    refuses(h, STATE, () -> h.say(1, 2, 3, 4, 5, 26));
    refuses(h, BAD, () -> h.say(1, 2, 3, 4, 5, 27));
    is(40, () -> h.say(1, 2, -1, 3, -1, 4));
    refuses(h, STATE, () -> h.say(-1, -1, -1, -1, -1, 0));
    is(40, () -> h.say(-1, -1, -1, -1, -1, -1));
    is(5, () -> h.say(26, 1, 2, 3, 4, 5));
    is("12345", h::line);
    is(0, () -> h.say(26, 26, 26, 26, 26, 26));
  }

  private static void promise22Line() {
    Tablehouse h = new Tablehouse();
    is("", h::line);
    h.say(0, 1, 2, 3, 4, 5);
    h.say(6, 7, 8, 9, 10, 11);
    h.say(12, 13, 14, 15, 16, 17);
    h.say(18, 19, 20, 21, 22, 23);
    h.say(24, 25, -1, -1, -1, -1);
    is("0123456789ABCDEF=<>~!&|-()", h::line);
    looks(h, "0123456789ABCDEF=<>~!&|-()", h::line);
  }

  private static void promise23Breaks() {
    Object[][] due = {
      {"", 0}, {"A", 1}, {"A!", -1}, {"A!!", 2}, {"A!1", 2}, {"A=", 2}, {"A=7", -1},
      {"A=07", -1}, {"A=77", -1}, {"A=777", 4}, {"A=A", -1}, {"A=F", -1}, {"A=BB", 3},
      {"A=B1", 3}, {"A=1B", 3},
      {"A=1A", 3}, {"A~1A", 3}, {"A~A", 2}, {"A<0F", 3}, {"A<9", -1}, {"A>B", -1}, {"A~", 2},
      {"A~7", -1},
      {"A~47", -1}, {"A~477", 4}, {"A~B", 2}, {"A~!", 2}, {"A==", 2}, {"A&", 1}, {"7", 0},
      {"=A", 0}, {"!", 0}, {"&", 0}, {"|", 0}, {")", 0}, {"-", 1}, {"--", 2}, {"-A", 2},
      {"--A!", -1}, {"---A=1", -1}, {"A-", 1}, {"A=-1", 2}, {"A!&", 3}, {"A!&&", 3},
      {"A!|", 3}, {"A!|&", 3}, {"A!|B!", -1}, {"A!&-B!", -1}, {"A!-B!", 2}, {"A!B!", 2},
      {"(", 1}, {"()", 1}, {"(A!", 3}, {"(A!)", -1}, {"(A!))", 4}, {"A!)", 2}, {"((", 2},
      {"((A!))", -1}, {"((A!)", 5}, {"(((", 2}, {"(((A!)))", 2}, {"(-(-A!))", -1},
      {"(A!)&(B!)", -1}, {"(A!)|((B!)&(C!))", -1}, {"(A!|(B!&(", 8}, {"(A!)A", 4}, {"-(", 2},
      {"-((A=1|B=2)&C~3)|--D!", -1}, {"(A=1", 4}, {"(A=12", 5}, {"(A=12)", -1}, {"A=1)", 3},
      {"(A!)(", 4}, {"A(", 1}, {"A=(", 2}, {"A=1&B=2|C<3&D>E|E~12&F!", -1},
      {"A=1|B=2|C=3|D=4|E=5|F=6|A=7|B=8|C=9|D=0", -1}, {"-".repeat(40), 40}, {"", 0},
      {"A=1", -1}, {"", 0}, {"(", 1}, {"", 0},
    };
    Tablehouse h = new Tablehouse();
    for (Object[] each : due) {
      String text = (String) each[0];
      type(h, text);
      Object broken = answerOf(() -> h.breaks(0));
      if (!broken.equals(each[1])) {
        System.out.println("breaks of " + text);
      }
      same(each[1], broken);
    }
    type(h, "A=1");
    looks(h, -1, () -> h.breaks(0));
    refuses(h, OUT, () -> h.breaks(-1));
    refuses(h, OUT, () -> h.breaks(3));
  }

  private static void promise23BreaksByTable() {
    Tablehouse h = new Tablehouse();
    type(h, "A!&D=C|F<1");
    is(-1, () -> h.breaks(0));
    is(7, () -> h.breaks(1));
    is(3, () -> h.breaks(2));
    type(h, "A=D");
    is(-1, () -> h.breaks(1));
    is(2, () -> h.breaks(2));
    type(h, "E!");
    is(-1, () -> h.breaks(0));
    is(0, () -> h.breaks(1));
    type(h, "A=E");
    is(2, () -> h.breaks(1));
    type(h, "C=C");
    is(-1, () -> h.breaks(2));
  }

  private static void promise24Ask() {
    Tablehouse h = new Tablehouse();
    h.sow(1, 5, 0, 1);
    type(h, "A>2");
    is(set(3, 4), () -> h.ask(1));
    is(1, () -> h.house(3));
    is(0, () -> h.house(2));
    is(set(3, 4), () -> h.ask(1));
    is(1, () -> h.house(2));
    is(1, () -> h.house(3));
    is(0, () -> h.ask(0));
    is(2, () -> h.house(3));
    is(2, () -> h.house(4));
    is(1, () -> h.ofTable(0, 3));
    is(1, () -> h.ofTable(1, 3));
    // What fits the same is another answer, if its text is another.
    type(h, "A>02");
    is(set(3, 4), () -> h.ask(1));
    is(3, () -> h.house(3));
    h.put(1, 0, 0, 90);
    is(set(0, 3, 4), () -> h.ask(1));
    is(4, () -> h.house(3));
    is(2, () -> h.house(5));
    refuses(h, OUT, () -> h.ask(3));
    refuses(h, OUT, () -> h.ask(-1));
    type(h, "E!");
    refuses(h, STATE, () -> h.ask(1));
    is(0, () -> h.ask(0));
    type(h, "");
    refuses(h, STATE, () -> h.ask(0));
    refuses(h, OUT, () -> h.ask(3));
  }

  private static void promise24AskKeepsFive() {
    Tablehouse h = new Tablehouse();
    h.sow(2, 3, 0, 1);
    for (int number = 1; number <= 5; number++) {
      type(h, "A=" + number).ask(number % 3);
    }
    is(5, () -> h.house(4));
    is(0, () -> h.house(6));
    is(1, () -> h.kept(0, 0));
    type(h, "A=1").ask(1);
    is(1, () -> h.house(2));
    is(2, () -> h.kept(0, 0));
    is(1, () -> h.kept(4, 0));
    type(h, "A=66").ask(0);
    is(5, () -> h.house(4));
    is(1, () -> h.house(6));
    is(false, () -> type(h, "A=2").isKept(2));
    is(true, () -> type(h, "A=1").isKept(1));
    is(4, () -> h.kept(4, 3));
    // The ones that do not ask leave the order.
    type(h, "A=3");
    h.road(0, 0);
    h.isKept(0);
    is(0, () -> h.kept(0, 0));
    is(2, () -> h.ofTable(0, 3));
    type(h, "A=7").ask(0);
    is(2, () -> h.house(6));
    is(false, () -> type(h, "A=3").isKept(0));
  }

  private static void promise24AskWhatChangesTakeOut() {
    Tablehouse h = new Tablehouse();
    h.sow(1, 4, 0, 1);
    h.sow(2, 4, 0, 1);
    type(h, "A=1").ask(1);
    type(h, "A=1&-B=C").ask(1);
    type(h, "C!").ask(1);
    type(h, "A=1").ask(2);
    is(0, () -> h.put(1, 0, 1, 7));
    is(4, () -> h.house(4));
    is(1, () -> h.put(1, 0, 3, 7));
    is(4, () -> h.house(4));
    is(1, () -> h.put(1, 0, 1, 8));
    is(1, () -> h.house(5));
    is(2, () -> h.ofTable(1, 3));
    is(1, () -> h.put(1, 3, 2, 8));
    is(2, () -> h.house(5));
    is(1, () -> h.ofTable(1, 3));
    h.index(1, 0, 0);
    h.need(1, 0, true);
    h.check(1, 0, 0, 9);
    h.link(2, 0, 1, 0, 2);
    is(2, () -> h.house(4));
    is(-2, () -> h.addFour(-1, 0, 0, 0));
    is(2, () -> h.house(4));
    // Only lets go in table 2, but takes a row out of table 1.
    is(1, () -> h.drop(1, 3));
    is(4, () -> h.house(5));
    is(0, () -> h.house(4));
    type(h, "B!").ask(2);
    type(h, "A!").ask(2);
    type(h, "A!").ask(0);
    is(1, () -> h.drop(1, 2));
    is(5, () -> h.house(5));
    is(true, () -> type(h, "B!").isKept(2));
    is(false, () -> type(h, "A!").isKept(2));
    is(true, () -> h.isKept(0));
    h.addSix(1, 1, 1, 1, 1, 1);
    is(6, () -> h.house(5));
    h.put(0, 0, 0, 2);
    type(h, "A!").ask(0);
    h.put(0, 0, 1, 2);
    is(true, () -> h.isKept(0));
    h.put(0, 0, 0, 3);
    is(false, () -> h.isKept(0));
    is(true, h::isSound);
  }

  private static void promise24AskWhatIsLetGoTakesOut() {
    Tablehouse h = new Tablehouse();
    h.index(1, 0, 0);
    row(h, 1, 5);
    row(h, 1, 6);
    h.link(2, 0, 1, 0, 2);
    h.link(2, 1, 1, 0, 2);
    h.link(0, 1, 1, 0, 2);
    h.link(0, 4, 1, 0, 2);
    h.addThree(5, 5, 1);
    h.addSix(0, -1, 0, 0, 5, 0);
    h.addSix(0, 5, 0, 0, -1, 0);
    type(h, "A!").ask(2);
    type(h, "B!").ask(2);
    type(h, "C!").ask(2);
    type(h, "B!").ask(0);
    type(h, "E!").ask(0);
    // Of one row two columns, of two rows a column each.
    is(1, () -> h.drop(1, 0));
    is(4, () -> h.house(5));
    is(1, () -> h.house(4));
    is(2, () -> h.kept(0, 0));
    is(set(2), () -> h.kept(0, 2));
    is(true, h::isSound);
  }

  private static void promise25RoadConditions() {
    Tablehouse h = new Tablehouse();
    h.addSix(47, 47, -1, 0, 0, 0);
    h.addSix(7, 8, -1, -1, 0, 0);
    h.addSix(-1, 8, -1, -1, 0, 0);
    h.addSix(70, 50, 70, 1, 0, 0);
    h.addSix(99, 0, 99, 99, 0, 0);
    Object[][] due = {
      {"A!", set(2)}, {"C!", set(0, 1, 2)}, {"A=7", set(1)}, {"A=07", set(1)}, {"A=70", set(3)},
      {"A<7", 0}, {"A<8", set(1)}, {"A>70", set(4)}, {"A>69", set(3, 4)}, {"A<99", set(0, 1, 3)},
      {"A=B", set(0)}, {"A<B", set(1)}, {"A>B", set(3, 4)}, {"A=C", set(3, 4)},
      {"A=A", set(0, 1, 3, 4)},
      {"A<A", 0}, {"C>B", set(3, 4)}, {"B>0", set(0, 1, 2, 3)}, {"E=0", set(0, 1, 2, 3, 4)},
      // The WORDS of A: 47 "aabab", 7 "abab", 70 "baba", 99 "baabaa".
      {"A~7", set(0, 1, 3)}, {"A~47", set(0)}, {"A~07", set(0, 1)}, {"A~70", set(3)},
      {"A~9", set(4)}, {"A~99", set(4)}, {"A~0", set(0, 1, 3, 4)}, {"A~4", set(0, 4)},
      {"A~1", set(0, 1, 3, 4)}, {"A~5", 0}, {"A~6", set(0, 1, 3, 4)}, {"A~2", set(0, 1, 3, 4)},
      {"A~8", 0}, {"A~00", set(0, 4)}, {"A~11", 0}, {"A~40", 0},
      {"-A=7", set(0, 2, 3, 4)}, {"--A=7", set(1)}, {"---A=7", set(0, 2, 3, 4)},
      {"B~0", set(0, 1, 2, 3, 4)}, {"B~00", set(0, 1, 2, 4)}, {"-A!", set(0, 1, 3, 4)},
      {"-A<B", set(0, 2, 3, 4)}, {"-A~7", set(2, 4)},
    };
    for (Object[] each : due) {
      type(h, (String) each[0]);
      for (int road = 0; road <= 3; road++) {
        int way = road;
        Object got = answerOf(() -> h.road(0, way));
        if (!got.equals(each[1])) {
          System.out.println("road " + way + " of " + each[0]);
        }
        same(each[1], got);
      }
    }
    type(h, "A=7");
    looks(h, set(1), () -> h.road(0, 2));
    refuses(h, OUT, () -> h.road(3, 0));
    refuses(h, OUT, () -> h.road(-1, 4));
    refuses(h, BAD, () -> h.road(0, 4));
    refuses(h, BAD, () -> h.road(0, -1));
    type(h, "A=7|");
    refuses(h, BAD, () -> h.road(0, 4));
    refuses(h, STATE, () -> h.road(0, 0));
    refuses(h, STATE, () -> h.road(0, 3));
  }

  private static void promise25RoadBinding() {
    Tablehouse h = new Tablehouse();
    for (int row = 0; row < 8; row++) {
      h.addThree(row & 1, row >> 1 & 1, row >> 2);
    }
    is(0b11111000, () -> asked(h, 2, "A=1&B=1|C=1"));
    is(0b11111000, () -> asked(h, 2, "C=1|A=1&B=1"));
    is(0b11101010, () -> asked(h, 2, "A=1|B=1&C=1"));
    is(0b10101000, () -> asked(h, 2, "A=1&(B=1|C=1)"));
    is(0b01000100, () -> asked(h, 2, "-A=1&B=1"));
    is(0b01110111, () -> asked(h, 2, "-(A=1&B=1)"));
    is(0b11011101, () -> asked(h, 2, "-A=1|B=1"));
    is(0b01010101, () -> asked(h, 2, "-(A=1&(B=1|B=0))"));
    is(0b10001000, () -> asked(h, 2, "--(A=1&-(B=0))"));
    is(0b00000001, () -> asked(h, 2, "-(A=1|(B=1|C=1))"));
    for (int road = 0; road <= 3; road++) {
      int way = road;
      is(0b00000001, () -> h.road(2, way));
    }
  }

  private static void promise25RoadsAgree() {
    String[] texts = {
      "A=3&B<40|C>50", "A~1&B~4|C~22", "A!|B!", "A<50&A>5|B=B", "-(A=1|B!)&C<70",
      "A=1|B=2|C=3", "(A=10)&--B<90", "A<B&C~0", "A>20&A<25|B~12&-C!", "A=5&B=5&C=5|A!&B!",
    };
    for (int kinds = 0; kinds < 8; kinds++) {
      Tablehouse h = new Tablehouse();
      h.sow(2, 12, 3, 7);
      h.sow(2, 9, 49, 11);
      h.addThree(-1, -1, 5);
      h.addThree(20, -1, -1);
      for (int column = 0; column < 3; column++) {
        for (int kind = 0; kind <= 2; kind++) {
          if ((kinds >> kind & 1) == 1) {
            h.index(2, column, kind);
          }
        }
      }
      for (String text : texts) {
        int due = asked(h, 2, text);
        for (int road = 1; road <= 3; road++) {
          int way = road;
          is(due, () -> h.road(2, way));
        }
        is(due, () -> h.ask(2));
        is(true, h::isSound);
      }
    }
  }

  private static void promise26Plan() {
    Tablehouse h = new Tablehouse();
    h.sow(0, 10, 0, 1);
    h.put(0, 0, 2, -1);
    h.index(0, 0, 0);
    h.index(0, 1, 1);
    h.index(0, 2, 2);
    h.index(0, 3, 1);
    // A 0 to 9 unique, B 7 to 16 ordered, C from 15 on by words, D 21 to 30 ordered.
    Object[][] due = {
      {"A=1", 0}, {"A<1", -1}, {"A>1", -1}, {"A!", -1}, {"A~1", -1}, {"B=8", 0}, {"B<8", 0},
      {"B>8", 0}, {"B!", 0}, {"B~8", -1}, {"C~1", 0}, {"C!", -1}, {"C=1", -1}, {"E=1", -1},
      {"-A=1", -1}, {"--A=1", -1}, {"(A=1)", -1}, {"B=D", -1}, {"B=B", -1},
      {"B<10&A=1", 1}, {"A=1&B<10", 0}, {"A=1&B=8", 0}, {"B=8&A=1", 0}, {"B>0&D>0", 0},
      {"B=99&A=99", 0}, {"A=1&B!", 1}, {"E!&-A=1&(B=8)&D<23&B<8", 4}, {"E!|A=1", -1},
      {"A=B&A=1", 1},
    };
    for (Object[] each : due) {
      type(h, (String) each[0]);
      Object got = answerOf(() -> h.plan(0, 0));
      if (!got.equals(each[1])) {
        System.out.println("plan of " + each[0]);
      }
      same(each[1], got);
    }
    type(h, "A=1|A=1|A=1|A=1|A=1|A=1");
    is(0, () -> h.plan(0, 5));
    type(h, "A=1|B=8");
    is(0, () -> h.plan(0, 1));
    is(-1, () -> h.plan(0, 2));
    type(h, "E!&A=1|B<9&A=1|(B=8|D=9)|D!");
    is(1, () -> h.plan(0, 0));
    is(1, () -> h.plan(0, 1));
    is(-1, () -> h.plan(0, 2));
    looks(h, 0, () -> h.plan(0, 3));
    is(-1, () -> h.plan(0, 4));
    is(-1, () -> h.plan(0, 40));
    is(-1, () -> h.plan(0, -1));
    is(-1, () -> h.plan(0, Integer.MAX_VALUE));
    is(-1, () -> h.plan(0, Integer.MIN_VALUE));
    refuses(h, OUT, () -> h.plan(3, 0));
    refuses(h, OUT, () -> h.plan(-1, 0));
    refuses(h, STATE, () -> h.plan(2, 0));
    is(-1, () -> type(h, "A=1").plan(1, 0));
    // An ordered index serves "=" before a unique one, with the same reads.
    h.index(0, 0, 1);
    is(0, () -> h.plan(0, 0));
    is(2, () -> type(h, "A>1&A<2&A=1").plan(0, 0));
    is(1, () -> type(h, "A>0&A<1&A=1").plan(0, 0));
  }

  private static void promise27Cost() {
    Tablehouse h = new Tablehouse();
    is(0, () -> type(h, "A=1").cost(0));
    h.sow(0, 10, 0, 1);
    is(10, () -> h.cost(0));
    h.index(0, 0, 0);
    is(1, () -> h.cost(0));
    is(0, () -> type(h, "A=50").cost(0));
    is(10, () -> type(h, "A=1|B=8").cost(0));
    h.index(0, 1, 1);
    is(2, () -> type(h, "A=1|B=8").cost(0));
    is(5, () -> type(h, "B<12&B>13|B<11&A=3|B<8").cost(0));
    is(9, () -> type(h, "B>7").cost(0));
    is(10, () -> type(h, "B>6").cost(0));
    is(10, () -> type(h, "B>7|A=1").cost(0));
    is(10, () -> type(h, "B>7|B>7").cost(0));
    is(1, () -> type(h, "B>7&A=1|B>50").cost(0));
    is(10, () -> type(h, "(A=1)").cost(0));
    is(10, () -> type(h, "--A=1").cost(0));
    is(1, () -> type(h, "--A=1&A=1").cost(0));
    is(0, () -> type(h, "B!").cost(0));
    is(10, () -> type(h, "B!|C!").cost(0));
    is(10, () -> type(h, "B~7").cost(0));
    h.index(0, 1, 2);
    // Of the WORDS of 7 to 16 these contain "bab": 7 "abab", 12 "bab", 16 "baba".
    is(set(0, 5, 9), () -> h.road(0, 3));
    looks(h, 3, () -> h.cost(0));
    refuses(h, OUT, () -> h.cost(-1));
    refuses(h, OUT, () -> h.cost(3));
    type(h, "A");
    refuses(h, STATE, () -> h.cost(0));
    refuses(h, OUT, () -> h.cost(3));
  }

  private static void promise28IsKept() {
    Tablehouse h = new Tablehouse();
    is(false, () -> h.isKept(0));
    type(h, "A!");
    is(false, () -> h.isKept(0));
    h.ask(0);
    looks(h, true, () -> h.isKept(0));
    is(false, () -> h.isKept(1));
    type(h, "A!&");
    is(false, () -> h.isKept(0));
    type(h, "A=1").ask(1);
    is(true, () -> h.isKept(1));
    is(false, () -> type(h, "A=01").isKept(1));
    is(false, () -> type(h, "A=2").isKept(1));
    is(true, () -> type(h, "A!").isKept(0));
    h.addSix(1, 1, 1, 1, 1, 1);
    is(false, () -> h.isKept(0));
    refuses(h, OUT, () -> h.isKept(3));
    refuses(h, OUT, () -> h.isKept(-1));
  }

  private static void promise29Kept() {
    Tablehouse h = new Tablehouse();
    refuses(h, OUT, () -> h.kept(0, 0));
    h.sow(1, 4, 0, 1);
    type(h, "A>1&-(B=9|D!)").ask(1);
    is(1, () -> h.kept(0, 0));
    is(set(3), () -> h.kept(0, 1));
    is(set(0, 1, 3), () -> h.kept(0, 2));
    is(13, () -> h.kept(0, 3));
    type(h, "F=E").ask(0);
    is(1, () -> h.kept(0, 0));
    is(0, () -> h.kept(1, 0));
    is(0, () -> h.kept(1, 1));
    is(set(4, 5), () -> h.kept(1, 2));
    looks(h, 3, () -> h.kept(1, 3));
    refuses(h, OUT, () -> h.kept(2, 0));
    refuses(h, OUT, () -> h.kept(-1, 4));
    refuses(h, BAD, () -> h.kept(0, 4));
    refuses(h, BAD, () -> h.kept(0, -1));
    h.put(1, 0, 1, 50);
    is(0, () -> h.kept(0, 0));
    refuses(h, OUT, () -> h.kept(1, 0));
  }

  private static void promise29KeptOfLongAndShortTexts() {
    Tablehouse h = new Tablehouse();
    type(h, "-".repeat(30) + "A=1&B=2|F!").ask(0);
    is(40, () -> h.kept(0, 3));
    is(set(0, 1, 5), () -> h.kept(0, 2));
    // What was typed before LINE was emptied is no part of it.
    for (int length = 2; length <= 6; length++) {
      type(h, "A!BCDEF");
      type(h, "A!&-B!".substring(0, length));
      if (h.breaks(0) == -1) {
        h.ask(0);
        same(length, h.kept(h.house(4) - 1, 3));
        same(length == 2 ? set(0) : set(0, 1), h.kept(h.house(4) - 1, 2));
      }
    }
    is(3, () -> h.house(4));
  }

  private static void promise30Scratch() {
    Tablehouse h = new Tablehouse();
    refuses(h, OUT, () -> h.scratch(0));
    is(0, () -> h.house(7));
    type(h, "A=1").ask(0);
    type(h, "A=2").ask(0);
    tells(h, -9, () -> h.scratch(0));
    tells(h, -9, () -> h.scratch(1));
    is(2, () -> h.house(7));
    refuses(h, OUT, () -> h.scratch(2));
    refuses(h, OUT, () -> h.scratch(-1));
  }

  // ---- indexes and lenses

  private static void indexes() {
    promise31Edge();
    promise32Near();
    promise33Under();
    promise34Whose();
    promise35Spelled();
    promise35SpelledAllWords();
    promise36EndingAllWords();
    promise36EndingWhenWordsGo();
    promise36Ending();
    promise37Lens();
    promise38Narrow();
    promise39OfLens();
    promise40Sweep();
    promise41Shut();
  }

  private static void promise31Edge() {
    Tablehouse h = new Tablehouse();
    h.index(2, 1, 1);
    tells(h, -9, () -> h.edge(2, 1, false));
    tells(h, -9, () -> h.edge(2, 1, true));
    h.addThree(0, -1, 0);
    tells(h, -9, () -> h.edge(2, 1, true));
    h.addThree(0, 0, 0);
    is(0, () -> h.edge(2, 1, false));
    is(0, () -> h.edge(2, 1, true));
    is(1, () -> h.ofColumn(2, 1, 7));
    h.put(2, 1, 1, 40);
    is(40, () -> h.edge(2, 1, false));
    looks(h, 40, () -> h.edge(2, 1, true));
    h.addThree(0, 99, 0);
    h.addThree(0, 0, 0);
    is(0, () -> h.edge(2, 1, false));
    is(99, () -> h.edge(2, 1, true));
    h.put(2, 2, 1, 98);
    h.drop(2, 3);
    is(40, () -> h.edge(2, 1, false));
    is(98, () -> h.edge(2, 1, true));
    refuses(h, OUT, () -> h.edge(3, 1, true));
    refuses(h, OUT, () -> h.edge(2, 3, true));
    refuses(h, OUT, () -> h.edge(2, -1, false));
    refuses(h, STATE, () -> h.edge(2, 0, true));
    h.index(2, 0, 2);
    h.unindex(2, 1, 1);
    refuses(h, STATE, () -> h.edge(2, 0, false));
    refuses(h, STATE, () -> h.edge(2, 1, true));
  }

  private static void promise32Near() {
    Tablehouse h = new Tablehouse();
    h.index(1, 3, 1);
    h.addFour(0, 0, 0, 10);
    h.addFour(0, 0, 0, 20);
    h.addFour(0, 0, 0, 20);
    h.addFour(0, 0, 0, -1);
    int[][] due = {
      {9, -1, -1, 10, 10}, {10, 10, -1, 10, 20}, {11, 10, 10, 20, 20}, {19, 10, 10, 20, 20},
      {20, 20, 10, 20, -1}, {21, 20, 20, -1, -1}, {0, -1, -1, 10, 10}, {99, 20, 20, -1, -1},
    };
    for (int[] each : due) {
      for (int way = 0; way <= 3; way++) {
        same(each[way + 1], h.near(1, 3, each[0], way));
      }
    }
    is(0, () -> h.house(7));
    for (int way = 0; way <= 3; way++) {
      int each = way;
      tells(h, -9, () -> h.near(1, 3, -1, each));
    }
    h.put(1, 0, 3, 0);
    h.put(1, 1, 3, 99);
    is(0, () -> h.near(1, 3, 0, 0));
    is(0, () -> h.near(1, 3, 1, 1));
    is(0, () -> h.near(1, 3, 0, 2));
    is(99, () -> h.near(1, 3, 99, 2));
    is(-1, () -> h.near(1, 3, 99, 3));
    is(-1, () -> h.near(1, 3, 0, 1));
    refuses(h, OUT, () -> h.near(1, 4, 0, 0));
    refuses(h, OUT, () -> h.near(-1, 0, 100, 0));
    refuses(h, BAD, () -> h.near(1, 3, 100, 0));
    refuses(h, BAD, () -> h.near(1, 3, -2, 0));
    refuses(h, BAD, () -> h.near(1, 3, 0, 4));
    refuses(h, BAD, () -> h.near(1, 3, -1, -1));
    refuses(h, BAD, () -> h.near(1, 0, 0, 4));
    refuses(h, STATE, () -> h.near(1, 0, 0, 0));
    refuses(h, STATE, () -> h.near(1, 0, -1, 0));
  }

  private static void promise33Under() {
    Tablehouse h = new Tablehouse();
    h.index(0, 4, 1);
    h.addSix(0, 0, 0, 0, 7, 0);
    h.addSix(0, 0, 0, 0, -1, 0);
    h.addSix(0, 0, 0, 0, 7, 0);
    is(set(0, 2), () -> h.under(0, 4, 7));
    looks(h, 0, () -> h.under(0, 4, 8));
    tells(h, -9, () -> h.under(0, 4, -1));
    h.put(0, 1, 4, 99);
    is(set(1), () -> h.under(0, 4, 99));
    h.put(0, 0, 4, -1);
    h.put(0, 1, 4, -1);
    h.index(0, 4, 0);
    h.index(0, 4, 2);
    h.put(0, 1, 4, 99);
    is(set(0), () -> type(h, "E!").road(0, 1));
    is(true, h::isSound);
    h.put(0, 0, 4, 8);
    is(set(0), () -> h.under(0, 4, 8));
    is(0, () -> h.road(0, 1));
    h.unindex(0, 4, 0);
    h.put(0, 0, 4, 7);
    h.drop(0, 0);
    is(set(2), () -> h.under(0, 4, 7));
    is(0, () -> h.under(0, 4, 0));
    refuses(h, OUT, () -> h.under(0, 6, 0));
    refuses(h, OUT, () -> h.under(3, 0, 100));
    refuses(h, BAD, () -> h.under(0, 4, 100));
    refuses(h, BAD, () -> h.under(0, 0, -2));
    refuses(h, STATE, () -> h.under(0, 0, 7));
    refuses(h, STATE, () -> h.under(0, 0, -1));
  }

  private static void promise34Whose() {
    Tablehouse h = new Tablehouse();
    h.index(0, 4, 0);
    h.addSix(0, 0, 0, 0, 7, 0);
    h.addSix(0, 0, 0, 0, -1, 0);
    h.addSix(0, 0, 0, 0, 0, 0);
    is(0, () -> h.whose(0, 4, 7));
    is(2, () -> h.whose(0, 4, 0));
    is(2, () -> h.ofColumn(0, 4, 6));
    is(-1, () -> h.whose(0, 4, 8));
    looks(h, -1, () -> h.whose(0, 4, -1));
    is(0, () -> h.house(7));
    h.drop(0, 0);
    is(-1, () -> h.whose(0, 4, 7));
    h.put(0, 2, 4, 7);
    is(2, () -> h.whose(0, 4, 7));
    is(-1, () -> h.whose(0, 4, 0));
    refuses(h, OUT, () -> h.whose(0, -1, 0));
    refuses(h, OUT, () -> h.whose(-1, 0, 100));
    refuses(h, BAD, () -> h.whose(0, 4, 100));
    refuses(h, BAD, () -> h.whose(0, 4, -2));
    refuses(h, BAD, () -> h.whose(0, 0, 100));
    h.index(0, 0, 1);
    refuses(h, STATE, () -> h.whose(0, 0, 0));
    refuses(h, STATE, () -> h.whose(0, 0, -1));
  }

  private static void promise35Spelled() {
    Tablehouse h = new Tablehouse();
    h.index(2, 0, 2);
    h.addThree(47, 0, 0);
    h.addThree(7, 0, 0);
    h.addThree(-1, 0, 0);
    h.addThree(70, 0, 0);
    h.addThree(99, 0, 0);
    h.addThree(0, 0, 0);
    is(set(0, 1, 3), () -> h.spelled(2, 0, 7, -1));
    is(set(0), () -> h.spelled(2, 0, 4, 7));
    is(set(0, 1), () -> h.spelled(2, 0, 0, 7));
    is(set(4), () -> h.spelled(2, 0, 9, 9));
    is(set(0, 4, 5), () -> h.spelled(2, 0, 4, -1));
    is(set(0, 1, 3, 4, 5), () -> h.spelled(2, 0, 0, -1));
    is(set(0, 1, 3, 4), () -> h.spelled(2, 0, 6, -1));
    is(0, () -> h.spelled(2, 0, 5, -1));
    looks(h, 0, () -> h.spelled(2, 0, 8, 8));
    h.drop(2, 0);
    is(set(1, 3), () -> h.spelled(2, 0, 7, -1));
    h.put(2, 3, 0, 12);
    is(set(1, 3), () -> h.spelled(2, 0, 7, -1));
    is(set(1, 3), () -> h.spelled(2, 0, 1, 2));
    is(set(1), () -> h.spelled(2, 0, 6, 1));
    refuses(h, OUT, () -> h.spelled(2, 3, 0, 0));
    refuses(h, OUT, () -> h.spelled(3, 0, -1, 0));
    refuses(h, BAD, () -> h.spelled(2, 0, -1, 0));
    refuses(h, BAD, () -> h.spelled(2, 0, 10, 0));
    refuses(h, BAD, () -> h.spelled(2, 0, 0, 10));
    refuses(h, BAD, () -> h.spelled(2, 1, 0, -2));
    h.index(2, 1, 1);
    refuses(h, STATE, () -> h.spelled(2, 1, 0, 0));
  }

  private static final String[] SYLLABLES =
      {"a", "b", "ab", "ba", "aa", "bb", "aba", "bab", "abb", "baa"};

  private static String word(int value) {
    return SYLLABLES[value / 10] + SYLLABLES[value % 10];
  }

  private static void addEndings(java.util.TreeSet<String> texts, String word) {
    for (int at = 0; at < word.length(); at++) {
      texts.add(word.substring(at));
    }
  }

  private static Tablehouse worded(int from) {
    Tablehouse h = new Tablehouse();
    h.index(2, 1, 2);
    for (int row = 0; row < 20; row++) {
      h.addThree(1, from + row, 2);
    }
    return h;
  }

  /** All values, twenty at a time, under all patterns. */
  private static void promise35SpelledAllWords() {
    for (int from = 0; from < 100; from += 20) {
      for (int one = 0; one <= 9; one++) {
        Tablehouse h = worded(from);
        for (int two = -1; two <= 9; two++) {
          String part = SYLLABLES[one] + (two == -1 ? "" : SYLLABLES[two]);
          int due = 0;
          for (int row = 0; row < 20; row++) {
            due |= word(from + row).contains(part) ? 1 << row : 0;
          }
          same(due, h.spelled(2, 1, one, two));
          type(h, "B~" + one + (two == -1 ? "" : two));
          for (int road = 0; road <= 3; road++) {
            same(due, h.road(2, road));
          }
        }
      }
    }
  }

  private static void promise36EndingAllWords() {
    for (int from = 0; from < 100; from += 20) {
      Tablehouse h = worded(from);
      java.util.TreeSet<String> texts = new java.util.TreeSet<>();
      for (int row = 0; row < 20; row++) {
        addEndings(texts, word(from + row));
      }
      int k = 0;
      for (String text : texts) {
        same(text, h.ending(2, 1, k));
        k++;
      }
      same("", h.ending(2, 1, k));
      same(k, h.ofColumn(2, 1, 8));
    }
  }

  /** Each value beside each other one, which then goes. */
  private static void promise36EndingWhenWordsGo() {
    for (int stays = 0; stays < 100; stays++) {
      Tablehouse h = new Tablehouse();
      h.index(2, 1, 2);
      h.addThree(0, stays, 0);
      h.addThree(0, 0, 0);
      java.util.TreeSet<String> alone = new java.util.TreeSet<>();
      addEndings(alone, word(stays));
      for (int goes = 0; goes < 100; goes++) {
        java.util.TreeSet<String> both = new java.util.TreeSet<>(alone);
        addEndings(both, word(goes));
        h.put(2, 1, 1, goes);
        same(both.size(), h.ofColumn(2, 1, 8));
        h.put(2, 1, 1, -1);
        same(alone.size(), h.ofColumn(2, 1, 8));
      }
      same(set(0), h.spelled(2, 1, stays / 10, stays % 10));
      same(true, h.isSound());
    }
  }

  private static void promise36Ending() {
    Tablehouse h = new Tablehouse();
    h.index(1, 0, 2);
    is("", () -> h.ending(1, 0, 0));
    row(h, 1, 47);
    String[] due = {"aabab", "ab", "abab", "b", "bab"};
    for (int k = 0; k < 5; k++) {
      same(due[k], h.ending(1, 0, k));
    }
    looks(h, "", () -> h.ending(1, 0, 5));
    is("", () -> h.ending(1, 0, -1));
    is("", () -> h.ending(1, 0, Integer.MAX_VALUE));
    is("", () -> h.ending(1, 0, Integer.MIN_VALUE));
    row(h, 1);
    row(h, 1, 99);
    String[] more =
        {"a", "aa", "aabaa", "aabab", "ab", "abaa", "abab", "b", "baa", "baabaa", "bab"};
    for (int k = 0; k < 11; k++) {
      same(more[k], h.ending(1, 0, k));
    }
    is("", () -> h.ending(1, 0, 11));
    is(11, () -> h.ofColumn(1, 0, 8));
    h.drop(1, 0);
    is("aabaa", () -> h.ending(1, 0, 2));
    is("baabaa", () -> h.ending(1, 0, 5));
    is("", () -> h.ending(1, 0, 6));
    is(6, () -> h.ofColumn(1, 0, 8));
    refuses(h, OUT, () -> h.ending(1, 4, 0));
    refuses(h, OUT, () -> h.ending(-1, 0, 0));
    refuses(h, STATE, () -> h.ending(1, 1, 0));
    refuses(h, STATE, () -> h.ending(0, 0, -1));
  }

  private static void promise37Lens() {
    Tablehouse h = new Tablehouse();
    h.index(1, 2, 1);
    h.sow(1, 5, 0, 10);
    tells(h, -9, () -> h.lens(1, 2, 50, 20));
    tells(h, -9, () -> h.lens(1, 2, 99, 1));
    is(0, () -> h.house(8));
    is(0, () -> h.lens(1, 2, 0, 100));
    is(1, () -> h.lens(1, 2, 99, 100));
    is(2, () -> h.lens(1, 2, 0, 1));
    tells(h, -9, () -> h.lens(1, 2, 2, 1));
    is(3, () -> h.lens(1, 2, 14, 25));
    is(4, () -> h.house(8));
    is(set(0, 1), () -> h.ofLens(3, 3));
    refuses(h, STATE, () -> h.lens(1, 2, 0, 100));
    refuses(h, STATE, () -> h.lens(1, 2, 50, 20));
    refuses(h, BAD, () -> h.lens(1, 2, 50, 50));
    h.shut();
    refuses(h, OUT, () -> h.lens(1, 4, 0, 1));
    refuses(h, OUT, () -> h.lens(3, 0, -1, 1));
    refuses(h, BAD, () -> h.lens(1, 2, -1, 1));
    refuses(h, BAD, () -> h.lens(1, 2, 100, 1));
    refuses(h, BAD, () -> h.lens(1, 2, 0, 0));
    refuses(h, BAD, () -> h.lens(1, 2, 0, 101));
    refuses(h, BAD, () -> h.lens(1, 2, 7, 7));
    refuses(h, BAD, () -> h.lens(1, 0, 7, 7));
    refuses(h, STATE, () -> h.lens(1, 0, 0, 1));
    refuses(h, STATE, () -> h.lens(1, 0, 9, 1));
    is(0, () -> h.lens(1, 2, 0, 1));
  }

  private static void promise38Narrow() {
    Tablehouse h = new Tablehouse();
    refuses(h, OUT, () -> h.narrow(0, 0, 1));
    h.index(1, 0, 1);
    h.sow(1, 5, 0, 10);
    h.sow(1, 1, 20, 0);
    h.lens(1, 0, 0, 100);
    h.lens(1, 0, 0, 100);
    is(5, () -> h.narrow(0, 0, 100));
    is(3, () -> h.narrow(0, 10, 40));
    is(10, () -> h.ofLens(0, 0));
    is(40, () -> h.ofLens(0, 1));
    is(0, () -> h.ofLens(1, 0));
    tells(h, -9, () -> h.narrow(0, 9, 40));
    tells(h, -9, () -> h.narrow(0, 10, 41));
    tells(h, -9, () -> h.narrow(0, 0, 9));
    tells(h, -9, () -> h.narrow(0, 41, 42));
    tells(h, -9, () -> h.narrow(0, 30, 20));
    is(2, () -> h.narrow(0, 11, 40));
    is(1, () -> h.narrow(0, 20, 30));
    is(set(2, 5), () -> h.ofLens(0, 3));
    is(0, () -> h.narrow(0, 21, 22));
    is(1, () -> h.narrow(1, 39, 41));
    refuses(h, OUT, () -> h.narrow(2, 0, 1));
    refuses(h, OUT, () -> h.narrow(-1, 1, 1));
    refuses(h, BAD, () -> h.narrow(0, 21, 21));
    refuses(h, BAD, () -> h.narrow(0, -1, 22));
    refuses(h, BAD, () -> h.narrow(0, 100, 22));
    refuses(h, BAD, () -> h.narrow(0, 21, 0));
    refuses(h, BAD, () -> h.narrow(0, 21, 101));
  }

  private static void promise39OfLens() {
    Tablehouse h = new Tablehouse();
    refuses(h, OUT, () -> h.ofLens(0, 0));
    h.index(1, 0, 1);
    h.lens(1, 0, 10, 30);
    int[] none = {10, 30, 0, 0, -1, -1};
    for (int what = 0; what <= 5; what++) {
      same(none[what], h.ofLens(0, what));
    }
    for (int value : new int[] {9, 10, 29, 30, -1, 10, 20}) {
      row(h, 1, value);
    }
    int[] due = {10, 30, 3, set(1, 2, 5, 6), 10, 29};
    for (int what = 0; what <= 5; what++) {
      same(due[what], h.ofLens(0, what));
    }
    h.put(1, 1, 0, 12);
    is(4, () -> h.ofLens(0, 2));
    h.drop(1, 5);
    is(12, () -> h.ofLens(0, 4));
    h.put(1, 2, 0, 30);
    is(20, () -> h.ofLens(0, 5));
    looks(h, set(1, 6), () -> h.ofLens(0, 3));
    refuses(h, OUT, () -> h.ofLens(1, 0));
    refuses(h, OUT, () -> h.ofLens(-1, 6));
    refuses(h, BAD, () -> h.ofLens(0, 6));
    refuses(h, BAD, () -> h.ofLens(0, -1));
    h.shut();
    refuses(h, OUT, () -> h.ofLens(0, 0));
  }

  private static void promise40Sweep() {
    Tablehouse h = new Tablehouse();
    refuses(h, OUT, () -> h.sweep(0));
    h.index(1, 0, 1);
    h.index(1, 0, 0);
    h.sow(1, 6, 0, 10);
    h.addFour(-1, 0, 0, 0);
    h.link(2, 0, 1, 0, 1);
    h.addThree(20, 0, 0);
    h.addThree(30, 0, 0);
    h.lens(1, 0, 10, 30);
    h.lens(1, 0, 60, 99);
    is(3, () -> h.sweep(0));
    is(set(0, 3, 4, 5, 6), () -> h.ofTable(1, 1));
    is(set(1), () -> h.ofTable(2, 1));
    is(0, () -> h.ofLens(0, 2));
    is(0, () -> h.sweep(0));
    is(0, () -> h.sweep(1));
    h.unlink(2, 0);
    h.link(2, 0, 1, 0, 0);
    h.lens(1, 0, 0, 100);
    tells(h, -5, () -> h.sweep(2));
    h.drop(2, 1);
    is(4, () -> h.sweep(2));
    is(set(6), () -> h.ofTable(1, 1));
    is(3, () -> h.house(8));
    refuses(h, OUT, () -> h.sweep(3));
    refuses(h, OUT, () -> h.sweep(-1));
  }

  private static void promise41Shut() {
    Tablehouse h = new Tablehouse();
    is(0, h::shut);
    h.index(0, 0, 1);
    h.lens(0, 0, 0, 1);
    h.lens(0, 0, 5, 7);
    is(2, h::shut);
    is(0, () -> h.house(8));
    is(0, h::shut);
    h.lens(0, 0, 20, 30);
    h.begin();
    is(1, h::shut);
    h.back();
    is(0, () -> h.house(8));
    is(0, () -> h.lens(0, 0, 3, 4));
    is(3, () -> h.ofLens(0, 0));
  }

  // ---- joins, groups, the cube

  private static void tallies() {
    promise42Join();
    promise43Pair();
    promise44Groups();
    promise45Group();
    promise46Total();
    promise47Ranked();
    promise48CellsBy();
    promise49Cell();
    promise50AnyOf();
  }

  /** Table 1 has 5, NULL, 7, 5 in its first column, table 2 has 7, 5, NULL, 5, 6 in its last. */
  private static Tablehouse joined() {
    Tablehouse h = new Tablehouse();
    for (int value : new int[] {5, -1, 7, 5}) {
      row(h, 1, value);
    }
    for (int value : new int[] {7, 5, -1, 5, 6}) {
      h.addThree(0, -1, value);
    }
    return h;
  }

  private static void promise42Join() {
    Tablehouse h = joined();
    for (int way = 0; way <= 2; way++) {
      same(5, h.join(1, 0, 2, 2, way));
      same(5, h.join(2, 2, 1, 0, way));
      same(5, h.join(1, 0, 1, 0, way));
      same(25, h.join(2, 0, 2, 0, way));
      same(0, h.join(1, 1, 2, 1, way));
      same(0, h.join(0, 0, 2, 2, way));
      same(0, h.join(1, 0, 2, 0, way));
    }
    looks(h, 5, () -> h.join(1, 0, 2, 2, 1));
    h.drop(2, 1);
    h.put(2, 4, 2, 7);
    is(4, () -> h.join(1, 0, 2, 2, 0));
    is(4, () -> h.join(1, 0, 2, 2, 1));
    is(4, () -> h.join(1, 0, 2, 2, 2));
    refuses(h, OUT, () -> h.join(3, 0, 0, 0, 0));
    refuses(h, OUT, () -> h.join(0, 6, 0, 0, 0));
    refuses(h, OUT, () -> h.join(0, 0, -1, 0, 0));
    refuses(h, OUT, () -> h.join(0, 0, 1, 4, 3));
    refuses(h, BAD, () -> h.join(0, 0, 1, 3, 3));
    refuses(h, BAD, () -> h.join(0, 0, 1, 3, -1));
  }

  private static void promise43Pair() {
    Tablehouse h = joined();
    int[] due = {1, 3, 32 * 2, 32 * 3 + 1, 32 * 3 + 3, -1, -1};
    for (int k = 0; k < due.length; k++) {
      same(due[k], h.pair(1, 0, 2, 2, k));
    }
    int[] other = {2, 32, 32 + 3, 32 * 3, 32 * 3 + 3, -1};
    for (int k = 0; k < other.length; k++) {
      same(other[k], h.pair(2, 2, 1, 0, k));
    }
    looks(h, 32 * 4 + 4, () -> h.pair(2, 0, 2, 0, 24));
    is(-1, () -> h.pair(2, 0, 2, 0, 25));
    is(-1, () -> h.pair(1, 0, 2, 2, -1));
    is(-1, () -> h.pair(1, 0, 2, 2, Integer.MAX_VALUE));
    is(-1, () -> h.pair(1, 0, 2, 2, Integer.MIN_VALUE));
    is(-1, () -> h.pair(1, 1, 2, 1, 0));
    h.sow(0, 12, 0, 0);
    h.sow(0, 12, 0, 0);
    is(32 * 23 + 23, () -> h.pair(0, 0, 0, 0, 575));
    refuses(h, OUT, () -> h.pair(-1, 0, 0, 0, 0));
    refuses(h, OUT, () -> h.pair(1, 4, 0, 0, 0));
    refuses(h, OUT, () -> h.pair(0, 0, 3, 0, 0));
    refuses(h, OUT, () -> h.pair(0, 0, 2, 3, -1));
  }

  private static void promise44Groups() {
    Tablehouse h = joined();
    is(3, () -> h.groups(1, 0));
    is(1, () -> h.groups(1, 1));
    looks(h, 4, () -> h.groups(2, 2));
    is(1, () -> h.groups(2, 0));
    is(0, () -> h.groups(0, 0));
    h.drop(2, 2);
    is(3, () -> h.groups(2, 2));
    h.put(2, 4, 2, 5);
    is(2, () -> h.groups(2, 2));
    refuses(h, OUT, () -> h.groups(1, 4));
    refuses(h, OUT, () -> h.groups(3, 0));
    refuses(h, OUT, () -> h.groups(0, -1));
  }

  private static void promise45Group() {
    Tablehouse h = new Tablehouse();
    h.addThree(9, 10, 0);
    h.addThree(-1, 20, 0);
    h.addThree(2, -1, 0);
    h.addThree(9, 3, 0);
    h.addThree(9, -1, 0);
    int[][] due = {
      {2, set(2), 1, 0, -1, -1}, {9, set(0, 3, 4), 3, 13, 3, 10}, {-1, set(1), 1, 20, 20, 20},
    };
    for (int k = 0; k < 3; k++) {
      for (int what = 0; what <= 5; what++) {
        same(due[k][what], h.group(2, 0, 1, k, what));
      }
    }
    is(27, () -> h.group(2, 0, 0, 1, 3));
    is(0, () -> h.group(2, 0, 0, 2, 3));
    is(-1, () -> h.group(2, 0, 0, 2, 4));
    is(-1, () -> h.group(2, 1, 0, 3, 0));
    looks(h, 9, () -> h.group(2, 1, 0, 3, 5));
    refuses(h, OUT, () -> h.group(2, 0, 1, 3, 0));
    refuses(h, OUT, () -> h.group(2, 0, 1, -1, 0));
    refuses(h, OUT, () -> h.group(2, 0, 1, 3, 6));
    refuses(h, OUT, () -> h.group(2, 0, 1, Integer.MAX_VALUE, 0));
    refuses(h, OUT, () -> h.group(2, 3, 1, 0, 0));
    refuses(h, OUT, () -> h.group(2, 0, 3, 0, 0));
    refuses(h, OUT, () -> h.group(2, 0, -1, 0, 0));
    refuses(h, OUT, () -> h.group(3, 0, 0, 0, 0));
    refuses(h, OUT, () -> h.group(1, 0, 0, 0, 0));
    refuses(h, BAD, () -> h.group(2, 0, 1, 0, 6));
    refuses(h, BAD, () -> h.group(2, 0, 1, 0, -1));
    h.put(2, 1, 0, 2);
    refuses(h, OUT, () -> h.group(2, 0, 1, 2, 0));
    is(set(1, 2), () -> h.group(2, 0, 1, 0, 1));
    is(0, () -> h.group(2, 2, 1, 0, 0));
    is(set(0, 1, 2, 3, 4), () -> h.group(2, 2, 1, 0, 1));
    h.put(2, 3, 2, 99);
    is(set(0, 1, 2, 4), () -> h.group(2, 2, 1, 0, 1));
    is(99, () -> h.group(2, 2, 1, 1, 0));
  }

  private static void promise46Total() {
    Tablehouse h = new Tablehouse();
    int[] none = {0, 0, -1, -1, 0};
    for (int what = 0; what <= 4; what++) {
      same(none[what], h.total(1, 0, what));
    }
    for (int value : new int[] {4, -1, 90, 4, 0, -1}) {
      row(h, 1, value);
    }
    int[] due = {98, 3, 0, 90, 2};
    for (int what = 0; what <= 4; what++) {
      same(due[what], h.total(1, 0, what));
    }
    int[] nulls = {0, 0, -1, -1, 6};
    for (int what = 0; what <= 4; what++) {
      same(nulls[what], h.total(1, 1, what));
    }
    h.put(1, 0, 0, 0);
    h.put(1, 4, 0, 4);
    is(0, () -> h.total(1, 0, 2));
    h.put(1, 0, 0, 4);
    h.drop(1, 4);
    h.put(1, 2, 0, 5);
    is(13, () -> h.total(1, 0, 0));
    is(2, () -> h.total(1, 0, 1));
    is(4, () -> h.total(1, 0, 2));
    looks(h, 5, () -> h.total(1, 0, 3));
    refuses(h, OUT, () -> h.total(1, 4, 0));
    refuses(h, OUT, () -> h.total(-1, 0, 5));
    refuses(h, OUT, () -> h.total(3, 0, 0));
    refuses(h, BAD, () -> h.total(1, 0, 5));
    refuses(h, BAD, () -> h.total(1, 0, -1));
  }

  private static void promise47Ranked() {
    Tablehouse h = new Tablehouse();
    is(-1, () -> h.ranked(1, 0, false, 0));
    for (int value : new int[] {50, -1, 20, 50, 99, -1, 0, 20}) {
      row(h, 1, value);
    }
    int[] rising = {6, 2, 7, 0, 3, 4, 1, 5, -1};
    int[] falling = {4, 0, 3, 2, 7, 6, 1, 5, -1};
    for (int k = 0; k < 9; k++) {
      same(rising[k], h.ranked(1, 0, false, k));
      same(falling[k], h.ranked(1, 0, true, k));
    }
    is(-1, () -> h.ranked(1, 0, true, -1));
    is(-1, () -> h.ranked(1, 0, false, Integer.MIN_VALUE));
    is(-1, () -> h.ranked(1, 0, false, Integer.MAX_VALUE));
    is(3, () -> h.ranked(1, 3, true, 3));
    h.drop(1, 0);
    looks(h, 3, () -> h.ranked(1, 0, true, 1));
    refuses(h, OUT, () -> h.ranked(1, 4, true, 0));
    refuses(h, OUT, () -> h.ranked(3, 0, true, 0));
    refuses(h, OUT, () -> h.ranked(0, -1, false, 0));
  }

  /** The cube of the last three columns of table 1. */
  private static Tablehouse cubed() {
    Tablehouse h = new Tablehouse();
    h.cube(1, 1, 2, 3);
    h.addFour(0, 1, 2, 3);
    h.addFour(1, 1, 2, -1);
    h.addFour(2, 1, 5, 3);
    h.addFour(3, 4, 2, 3);
    h.addFour(4, 1, 2, 3);
    return h;
  }

  private static void promise48CellsBy() {
    Tablehouse h = cubed();
    int[] due = {1, 2, 2, 3, 2, 3, 3, 4};
    int all = 0;
    for (int set = 0; set <= 7; set++) {
      same(due[set], h.cellsBy(set));
      all += due[set];
    }
    is(all, () -> h.house(9));
    looks(h, 4, () -> h.cellsBy(7));
    h.drop(1, 3);
    is(1, () -> h.cellsBy(1));
    is(3, () -> h.cellsBy(7));
    is(0, () -> new Tablehouse().cellsBy(0));
    refuses(h, BAD, () -> h.cellsBy(8));
    refuses(h, BAD, () -> h.cellsBy(-1));
  }

  private static void promise49Cell() {
    Tablehouse h = cubed();
    is(5, () -> h.cell(-2, -2, -2));
    is(4, () -> h.cell(1, -2, -2));
    is(1, () -> h.cell(4, -2, -2));
    is(4, () -> h.cell(-2, 2, -2));
    is(4, () -> h.cell(-2, -2, 3));
    is(1, () -> h.cell(-2, -2, -1));
    is(1, () -> h.cell(1, -2, -1));
    is(3, () -> h.cell(1, 2, -2));
    is(2, () -> h.cell(1, 2, 3));
    is(1, () -> h.cell(1, 2, -1));
    is(3, () -> h.cell(-2, 2, 3));
    is(0, () -> h.cell(-1, -2, -2));
    is(0, () -> h.cell(2, 1, 3));
    looks(h, 0, () -> h.cell(99, 99, 99));
    h.drop(1, 0);
    is(1, () -> h.cell(1, 2, 3));
    h.put(1, 4, 3, 99);
    is(0, () -> h.cell(1, 2, 3));
    is(1, () -> h.cell(1, 2, 99));
    h.put(1, 4, 0, 77);
    is(1, () -> h.cell(1, 2, 99));
    is(true, h::isSound);
    for (int number : new int[] {-3, 100}) {
      refuses(h, BAD, () -> h.cell(number, 0, 0));
      refuses(h, BAD, () -> h.cell(0, number, 0));
      refuses(h, BAD, () -> h.cell(0, 0, number));
    }
  }

  private static void promise50AnyOf() {
    Tablehouse h = cubed();
    is(5, () -> h.anyOf(1, 2, 3));
    is(1, () -> h.anyOf(4, 9, 9));
    is(2, () -> h.anyOf(9, 5, -1));
    is(2, () -> h.anyOf(4, 5, 9));
    is(4, () -> h.anyOf(1, 9, 9));
    is(5, () -> h.anyOf(1, 9, 3));
    is(4, () -> h.anyOf(9, 2, 9));
    is(5, () -> h.anyOf(9, 2, 3));
    is(5, () -> h.anyOf(1, 2, 9));
    is(1, () -> h.anyOf(-1, -1, -1));
    looks(h, 0, () -> h.anyOf(99, 99, 99));
    for (int number : new int[] {-2, 100}) {
      refuses(h, BAD, () -> h.anyOf(number, 0, 0));
      refuses(h, BAD, () -> h.anyOf(0, number, 0));
      refuses(h, BAD, () -> h.anyOf(0, 0, number));
    }
    is(0, () -> new Tablehouse().anyOf(-1, -1, -1));
    Tablehouse g = new Tablehouse();
    g.addSix(10, 20, 30, 40, 50, 60);
    g.addFour(1, 2, 3, 4);
    is(1, () -> g.cell(10, 20, 30));
    is(1, () -> g.cell(-2, -2, 30));
    is(0, () -> g.cell(1, 2, 3));
    is(1, () -> g.anyOf(0, 0, 30));
    is(0, () -> g.anyOf(20, 10, 40));
  }

  // ---- what is asked

  private static void asked() {
    promise51Get();
    promise52OfTable();
    promise53OfColumn();
    promise54House();
    promise55Knock();
    promise56Stamp();
    promise57IsSound();
    promise58Digest();
  }

  private static void promise51Get() {
    Tablehouse h = new Tablehouse();
    h.addSix(1, -1, 3, 4, 5, 99);
    h.addThree(0, 8, -1);
    is(1, () -> h.get(0, 0, 0));
    is(-1, () -> h.get(0, 0, 1));
    looks(h, 99, () -> h.get(0, 0, 5));
    is(8, () -> h.get(2, 0, 1));
    refuses(h, OUT, () -> h.get(-1, 0, 0));
    refuses(h, OUT, () -> h.get(3, 0, 0));
    refuses(h, OUT, () -> h.get(0, -1, 0));
    refuses(h, OUT, () -> h.get(0, 1, 0));
    refuses(h, OUT, () -> h.get(0, 24, 0));
    refuses(h, OUT, () -> h.get(0, 32, 0));
    refuses(h, OUT, () -> h.get(0, 0, 6));
    refuses(h, OUT, () -> h.get(0, 0, -1));
    refuses(h, OUT, () -> h.get(1, 0, 0));
    refuses(h, OUT, () -> h.get(2, 0, 3));
    h.drop(0, 0);
    refuses(h, OUT, () -> h.get(0, 0, 0));
  }

  private static void promise52OfTable() {
    Tablehouse h = new Tablehouse();
    h.sow(1, 12, 0, 1);
    is(12, () -> h.ofTable(1, 0));
    is(0xfff, () -> h.ofTable(1, 1));
    is(12, () -> h.ofTable(1, 2));
    h.drop(1, 4);
    h.drop(1, 9);
    is(10, () -> h.ofTable(1, 0));
    is(0xdef, () -> h.ofTable(1, 1));
    is(4, () -> h.ofTable(1, 2));
    h.sow(1, 12, 0, 1);
    h.sow(1, 2, 0, 1);
    is(24, () -> h.ofTable(1, 0));
    is(0xffffff, () -> h.ofTable(1, 1));
    is(24, () -> h.ofTable(1, 2));
    type(h, "A!").ask(1);
    type(h, "B!").ask(1);
    type(h, "B!").ask(0);
    looks(h, 2, () -> h.ofTable(1, 3));
    is(1, () -> h.ofTable(0, 3));
    is(0, () -> h.ofTable(2, 3));
    refuses(h, OUT, () -> h.ofTable(3, 0));
    refuses(h, OUT, () -> h.ofTable(-1, 4));
    refuses(h, BAD, () -> h.ofTable(0, 4));
    refuses(h, BAD, () -> h.ofTable(0, -1));
  }

  private static void promise53OfColumn() {
    Tablehouse h = new Tablehouse();
    h.addFour(47, 5, 1, 1);
    h.addFour(99, 5, 1, 1);
    h.addFour(-1, -1, 1, 1);
    h.index(1, 0, 0);
    h.index(1, 0, 2);
    h.index(1, 1, 1);
    h.need(1, 2, true);
    h.check(1, 3, 1, 90);
    h.link(1, 0, 1, 0, 2);
    h.link(2, 1, 1, 0, 1);
    int[][] due = {
      {5, 0, 0, 99, 2, 10, 2, 0, 11}, {2, 0, 0, 99, -1, -1, 0, 1, 0},
      {0, 1, 0, 99, -1, -1, 0, 0, 0}, {0, 0, 1, 90, -1, -1, 0, 0, 0},
    };
    for (int column = 0; column < 4; column++) {
      for (int what = 0; what <= 8; what++) {
        same(due[column][what], h.ofColumn(1, column, what));
      }
    }
    is(1, () -> h.ofColumn(2, 1, 4));
    is(10, () -> h.ofColumn(2, 1, 5));
    h.index(0, 3, 0);
    h.link(0, 0, 0, 3, 0);
    is(0, () -> h.ofColumn(0, 0, 4));
    looks(h, 3, () -> h.ofColumn(0, 0, 5));
    h.drop(1, 1);
    h.put(1, 0, 1, 6);
    is(1, () -> h.ofColumn(1, 0, 6));
    is(5, () -> h.ofColumn(1, 0, 8));
    is(1, () -> h.ofColumn(1, 1, 7));
    h.index(1, 2, 1);
    is(1, () -> h.ofColumn(1, 2, 7));
    h.unlink(1, 0);
    h.unlink(2, 1);
    h.unindex(1, 0, 0);
    h.unindex(1, 0, 2);
    h.unindex(1, 1, 1);
    is(0, () -> h.ofColumn(1, 0, 0));
    is(0, () -> h.ofColumn(1, 0, 6));
    is(0, () -> h.ofColumn(1, 0, 8));
    is(0, () -> h.ofColumn(1, 1, 7));
    refuses(h, OUT, () -> h.ofColumn(1, 4, 0));
    refuses(h, OUT, () -> h.ofColumn(3, 0, 9));
    refuses(h, OUT, () -> h.ofColumn(0, -1, 0));
    refuses(h, BAD, () -> h.ofColumn(1, 0, 9));
    refuses(h, BAD, () -> h.ofColumn(1, 0, -1));
  }

  private static void promise54House() {
    Tablehouse h = new Tablehouse();
    h.index(1, 0, 1);
    h.lens(1, 0, 0, 50);
    h.addSix(1, 1, 1, 1, 1, 1);
    h.begin();
    h.sow(1, 3, 0, 1);
    h.begin();
    h.put(1, 0, 1, 50);
    type(h, "A=1").ask(1);
    h.ask(1);
    h.put(1, 0, 0, 9);
    for (int number = 0; number <= 5; number++) {
      type(h, "A=" + number).ask(0);
    }
    h.near(1, 0, -1, 0);
    int[] due = {2, 5, 1, 7, 5, 1, 1, 1, 1, 8};
    for (int what = 0; what <= 9; what++) {
      same(due[what], h.house(what));
    }
    looks(h, 8, () -> h.house(9));
    refuses(h, BAD, () -> h.house(10));
    refuses(h, BAD, () -> h.house(-1));
    h.back();
    h.commit();
    int[] then = {0, 0, 1, 7, 0, 1, 1, 1, 1, 8};
    for (int what = 0; what <= 9; what++) {
      same(then[what], h.house(what));
    }
  }

  private static void promise55Knock() {
    Tablehouse h = new Tablehouse();
    is(1, h::knock);
    long digest = h.digest();
    h.begin();
    is(2, h::knock);
    h.back();
    is(3, h::knock);
    is(digest, h::digest);
    is(1, () -> new Tablehouse().knock());
  }

  /** A house in which there is something of everything. */
  private static Tablehouse furnished() {
    Tablehouse h = new Tablehouse();
    h.index(1, 0, 0);
    h.index(1, 0, 1);
    h.index(1, 0, 2);
    h.index(0, 5, 1);
    h.index(2, 1, 2);
    h.index(2, 2, 0);
    h.link(0, 0, 1, 0, 1);
    h.link(2, 0, 1, 0, 2);
    h.need(2, 2, true);
    h.check(0, 4, 1, 98);
    h.sow(1, 12, 3, 8);
    h.addSix(3, 47, -1, 8, 9, 10);
    h.addSix(11, 47, 6, -1, 50, -1);
    h.addSix(-1, -1, -1, -1, -1, 10);
    h.addSix(91, 0, 6, 8, 9, 99);
    h.addThree(19, 70, 0);
    h.addThree(27, -1, 5);
    h.addThree(91, 7, 99);
    h.drop(1, 11);
    h.lens(1, 0, 10, 60);
    h.lens(0, 5, 99, 100);
    type(h, "A>20&-B=C|B~47").ask(0);
    h.ask(1);
    h.ask(2);
    type(h, "A!|C=99").ask(2);
    return h;
  }

  /** What the rows of a table have, with null where there is none; each is asked but once. */
  private static int[][] rowsOf(Tablehouse h, int table) {
    int[][] rows = new int[24][];
    int set = h.ofTable(table, 1);
    for (int row = 0; row < 24; row++) {
      if ((set >> row & 1) == 1) {
        rows[row] = new int[WIDTH[table]];
        for (int column = 0; column < WIDTH[table]; column++) {
          rows[row][column] = h.get(table, row, column);
        }
      }
    }
    return rows;
  }

  private static int rowsWith(int[][] rows, int column, int value) {
    int set = 0;
    for (int row = 0; row < 24; row++) {
      set |= rows[row] != null && rows[row][column] == value ? 1 << row : 0;
    }
    return set;
  }

  private static int stampBySteps(Tablehouse h) {
    int s = 4812;
    for (int table = 0; table < 3; table++) {
      int[][] rows = rowsOf(h, table);
      s = s * 31 + h.ofTable(table, 1);
      for (int[] row : rows) {
        for (int column = 0; row != null && column < WIDTH[table]; column++) {
          s = s * 31 + row[column];
        }
      }
      for (int column = 0; column < WIDTH[table]; column++) {
        s = stampOfColumn(h, s, table, column, rows);
      }
    }
    s = s * 31 + h.house(9);
    for (int answer = 0; answer < h.house(4); answer++) {
      for (int what = 0; what <= 3; what++) {
        s = s * 31 + h.kept(answer, what);
      }
    }
    return s;
  }

  private static int stampOfColumn(Tablehouse h, int before, int table, int column, int[][] rows) {
    int s = before;
    int kinds = h.ofColumn(table, column, 0);
    for (int value = 0; (kinds & 1) != 0 && value <= 99; value++) {
      if (rowsWith(rows, column, value) != 0) {
        s = s * 31 + value;
        s = s * 31 + h.whose(table, column, value);
      }
    }
    if ((kinds & 2) != 0) {
      for (int value = 0; value <= 99; value++) {
        if (rowsWith(rows, column, value) != 0) {
          s = s * 31 + value;
          s = s * 31 + h.under(table, column, value);
        }
      }
      s = s * 31 + rowsWith(rows, column, -1);
    }
    return (kinds & 4) != 0 ? s * 31 + h.ofColumn(table, column, 8) : s;
  }

  private static void promise56Stamp() {
    is(((4812 * 31 * 31 + 0) * 31 + 0) * 31, () -> new Tablehouse().stamp());
    Tablehouse h = furnished();
    same(stampBySteps(h), h.stamp());
    looks(h, h.stamp(), h::stamp);
    // What is not in it leaves it as it is.
    int stamp = h.stamp();
    h.knock();
    h.shut();
    type(h, "A=1");
    h.check(1, 3, 0, 99);
    h.begin();
    is(stamp, h::stamp);
    h.put(1, 0, 1, 55);
    same(stampBySteps(h), h.stamp());
    same(true, stamp != h.stamp());
    h.back();
    is(stamp, h::stamp);
    Tablehouse asked = furnished();
    asked.ask(2);
    same(stampBySteps(asked), asked.stamp());
    Tablehouse told = furnished();
    told.cube(2, 0, 1, 2);
    same(stampBySteps(told), told.stamp());
    told.shut();
    told.unindex(1, 0, 1);
    same(stampBySteps(told), told.stamp());
    for (int kind = 0; kind <= 2; kind++) {
      Tablehouse g = new Tablehouse();
      g.index(2, 2, kind);
      g.addThree(0, 0, 0);
      g.addThree(0, 0, 99);
      g.addThree(0, 0, -1);
      same(stampBySteps(g), g.stamp());
    }
  }

  private static void promise57IsSound() {
    Tablehouse h = furnished();
    is(true, h::isSound);
    looks(h, true, h::isSound);
    h.begin();
    h.sweep(0);
    is(true, h::isSound);
    type(h, "-(A>5|B!)&C<50");
    h.ask(1);
    h.alter(1, 3, 7);
    is(true, h::isSound);
    h.begin();
    h.cut(1);
    is(true, h::isSound);
    h.back();
    is(true, h::isSound);
    h.back();
    is(true, h::isSound);
    type(h, "(A");
    is(true, h::isSound);
    h.cube(1, 0, 2, 3);
    h.index(0, 1, 2);
    is(true, h::isSound);
  }

  private static long digestBySteps(Tablehouse h) {
    long d = 48121L * 31 + h.stamp();
    for (int what = 0; what <= 9; what++) {
      d = d * 31 + h.house(what);
    }
    for (int table = 0; table < 3; table++) {
      for (int what = 0; what <= 3; what++) {
        d = d * 31 + h.ofTable(table, what);
      }
      d = d * 31 + h.breaks(table);
      if (h.breaks(table) == -1) {
        d = ((d * 31 + h.road(table, 0)) * 31 + h.cost(table)) * 31 + h.plan(table, 0);
      }
      for (int column = 0; column < WIDTH[table]; column++) {
        for (int what = 0; what <= 8; what++) {
          d = d * 31 + h.ofColumn(table, column, what);
        }
        d = d * 31 + h.groups(table, column);
        for (int what = 0; what <= 4; what++) {
          d = d * 31 + h.total(table, column, what);
        }
      }
    }
    for (int lens = 0; lens < h.house(8); lens++) {
      for (int what = 0; what <= 5; what++) {
        d = d * 31 + h.ofLens(lens, what);
      }
    }
    for (int set = 0; set <= 7; set++) {
      d = d * 31 + h.cellsBy(set);
    }
    d = d * 31 + h.line().length();
    return d * 31 + (h.isSound() ? 1 : 0);
  }

  private static void promise58Digest() {
    Tablehouse empty = new Tablehouse();
    same(digestBySteps(empty), empty.digest());
    for (String text : new String[] {"A=91", "D>E&E>1", "C=5|C=99", "-A!", "(A!", "B~7&A>1|B~0"}) {
      Tablehouse h = type(furnished(), text);
      same(digestBySteps(h), h.digest());
      looks(h, h.digest(), h::digest);
      Tablehouse g = type(furnished(), text);
      g.begin();
      g.begin();
      g.drop(1, 10);
      same(digestBySteps(g), g.digest());
    }
  }
}
