/** Each "Returns" and each "Throws" of the promises that names a boundary case, by itself. */
public final class PromiseEdges extends Edge {
  private static final String A_COLUMN = "- `column`: a COLUMN of it";
  private static final String NO_COLUMN = "if there is no such TABLE, or COLUMN of it";
  private static final String NO_TABLE = "if there is no such TABLE";
  private static final String OPEN = "if a transaction is open";
  private static final String NOT_RIGHT = "if LINE is not RIGHT for the TABLE";
  private static final String NO_VALUE = "if value is not -1 to 99";

  public static void main(String[] args) {
    rules();
    linksAndCube();
    adding();
    changing();
    takingOut();
    transactions();
    line();
    asking();
    answers();
    ordered();
    otherIndexes();
    lenses();
    joins();
    groups();
    cells();
    rows();
    sums();
    end(args);
  }

  /** A house whose columns all have an index of a kind. */
  private static Tablehouse indexed(int kind) {
    Tablehouse h = new Tablehouse();
    for (int table = 0; table <= 2; table++) {
      for (int column = 0; column < WIDTH[table]; column++) {
        h.index(table, column, kind);
      }
    }
    return h;
  }

  // ---- promises 1 to 5

  private static void rules() {
    sentence("Promise 1", "Creates a house with three empty TABLES.", () -> {
      Tablehouse h = new Tablehouse();
      for (int table = 0; table <= 2; table++) {
        for (int what = 0; what <= 3; what++) {
          same(0, h.ofTable(table, what));
        }
      }
      for (int what = 0; what <= 9; what++) {
        same(0, h.house(what));
      }
      is("", h::line);
      is(true, h::isSound);
      // What one house has another has not.
      h.sow(0, 3, 0, 0);
      is(0, () -> new Tablehouse().ofTable(0, 0));
    });
    sentence("Promise 2", "Makes an index over the ROWS that there are.", () -> {
      for (int table = 0; table <= 2; table++) {
        Tablehouse h = new Tablehouse();
        int t = table;
        int last = WIDTH[table] - 1;
        h.sow(t, 12, 0, 1);
        h.sow(t, 12, 12, 1);
        h.put(t, 0, last, -1);
        h.drop(t, 5);
        for (int kind = 0; kind <= 2; kind++) {
          same(1, h.index(t, last, kind));
        }
        is(22, () -> h.ofColumn(t, last, 6));
        is(22, () -> h.ofColumn(t, last, 7));
        is(23, () -> h.whose(t, last, 23 + 7 * last));
        is(-1, () -> h.whose(t, last, 7 * last));
        is(set(23), () -> h.under(t, last, 23 + 7 * last));
        is(0, () -> h.under(t, last, 5 + 7 * last));
        is(true, h::isSound);
      }
    });
    sentence("Promise 2", "Returns 1; 0, if the COLUMN has one (nothing changes)", () -> {
      Tablehouse h = column(5, 6);
      for (int kind = 0; kind <= 2; kind++) {
        int each = kind;
        is(1, () -> h.index(1, 0, each));
        looks(h, 0, () -> h.index(1, 0, each));
        is(1, () -> h.index(1, 1, each));
        is(1, () -> h.index(2, 0, each));
      }
    });
    sentence("Promise 2", "the FAULT -4, if it would be UNIQUE and two ROWS have the same VALUE "
        + "(nothing changes).", () -> {
          Tablehouse h = column(5, -1, 5, -1);
          tells(h, -4, () -> h.index(1, 0, 0));
          is(0, () -> h.ofColumn(1, 0, 0));
          is(1, () -> h.index(1, 0, 1));
          is(1, () -> h.index(1, 0, 2));
          is(1, () -> h.index(1, 1, 0));
          h.put(1, 2, 0, -1);
          is(1, () -> h.index(1, 0, 0));
          Tablehouse g = new Tablehouse();
          g.sow(0, 12, 0, 1);
          g.sow(0, 12, 11, 1);
          tells(g, -4, () -> g.index(0, 5, 0));
          g.drop(0, 12);
          is(1, () -> g.index(0, 5, 0));
        });
    sentence("Promise 2", NO_COLUMN, () -> {
      Tablehouse h = new Tablehouse();
      needsColumn(h, (table, column) -> h.index(table, column, 0));
    });
    sentence("Promise 2", "if kind is not 0 to 2", () -> {
      Tablehouse h = new Tablehouse();
      needsWithin(h, 0, 2, kind -> h.index(0, 0, kind));
    });
    sentence("Promise 2", OPEN, () -> {
      Tablehouse h = column(5, 5);
      h.index(1, 1, 1);
      needsNoTransaction(h, () -> h.index(1, 2, 0), () -> h.index(1, 0, 0), () -> h.index(1, 1, 1));
    });
    sentence("Promise 3", "Returns whether there was one.", () -> {
      Tablehouse h = column(5);
      for (int kind = 0; kind <= 2; kind++) {
        int each = kind;
        looks(h, false, () -> h.unindex(1, 0, each));
        h.index(1, 0, each);
        looks(h, false, () -> h.unindex(1, 0, (each + 1) % 3), () -> h.unindex(1, 1, each),
            () -> h.unindex(0, 0, each));
        is(true, () -> h.unindex(1, 0, each));
        is(0, () -> h.ofColumn(1, 0, 0));
      }
    });
    sentence("Promise 3", NO_COLUMN, () -> {
      Tablehouse h = new Tablehouse();
      needsColumn(h, (table, column) -> h.unindex(table, column, 0));
    });
    sentence("Promise 3", "if kind is not 0 to 2", () -> {
      Tablehouse h = new Tablehouse();
      needsWithin(h, 0, 2, kind -> h.unindex(0, 0, kind));
    });
    sentence("Promise 3", "if a transaction is open, or it is UNIQUE and a LINK leads to it, or ORDERED "
        + "and a LENS looks at it", PromiseEdges::indexesInUse);
    sentence("Promise 4", "Returns 1; the FAULT -2, if it would be and a ROW has NULL there (nothing "
        + "changes).", () -> {
          Tablehouse h = column(5, -1);
          tells(h, -2, () -> h.need(1, 0, true));
          is(0, () -> h.ofColumn(1, 0, 1));
          looks(h, 1, () -> h.need(1, 0, false));
          h.put(1, 1, 0, 0);
          is(1, () -> h.need(1, 0, true));
          is(1, () -> h.ofColumn(1, 0, 1));
          looks(h, 1, () -> h.need(1, 0, true));
          is(1, () -> h.need(1, 0, false));
          is(0, () -> h.ofColumn(1, 0, 1));
          is(1, () -> h.put(1, 1, 0, -1));
          is(1, () -> h.need(2, 2, true));
        });
    sentence("Promise 4", NO_COLUMN, () -> {
      Tablehouse h = new Tablehouse();
      needsColumn(h, (table, column) -> h.need(table, column, true));
    });
    sentence("Promise 4", OPEN, () -> {
      Tablehouse h = column(5, -1);
      needsNoTransaction(h, () -> h.need(1, 0, true), () -> h.need(1, 0, false),
          () -> h.need(2, 0, true));
    });
    sentence("Promise 5", "Returns 1; the FAULT -3, if a VALUE there would not be in it (nothing "
        + "changes).", () -> {
          Tablehouse h = column(20, 30, -1);
          tells(h, -3, () -> h.check(1, 0, 21, 30), () -> h.check(1, 0, 20, 29),
              () -> h.check(1, 0, 31, 99), () -> h.check(1, 0, 0, 19));
          is(0, () -> h.ofColumn(1, 0, 2));
          is(99, () -> h.ofColumn(1, 0, 3));
          is(1, () -> h.check(1, 0, 20, 30));
          is(20, () -> h.ofColumn(1, 0, 2));
          is(30, () -> h.ofColumn(1, 0, 3));
          is(1, () -> h.check(1, 0, 19, 31));
          is(1, () -> h.check(1, 0, 0, 99));
          // Where there is only NULL, each will do.
          is(1, () -> h.check(1, 1, 7, 7));
          is(1, () -> h.check(1, 1, 99, 99));
        });
    sentence("Promise 5", NO_COLUMN, () -> {
      Tablehouse h = new Tablehouse();
      needsColumn(h, (table, column) -> h.check(table, column, 0, 99));
    });
    sentence("Promise 5", "if low is not 0 to 99, or high not low to 99", () -> {
      Tablehouse h = new Tablehouse();
      needsWithin(h, 0, 99, low -> h.check(0, 0, low, 99));
      needsWithin(h, 0, 99, high -> h.check(0, 0, 0, high));
      needsWithin(h, 50, 99, high -> h.check(0, 0, 50, high));
      needsWithin(h, 99, 99, high -> h.check(0, 0, 99, high));
      refuses(h, BAD, () -> h.check(0, 0, 100, 100), () -> h.check(0, 0, -1, -1));
    });
    sentence("Promise 5", OPEN, () -> {
      Tablehouse h = column(5);
      needsNoTransaction(h, () -> h.check(1, 0, 6, 9), () -> h.check(1, 0, 0, 99),
          () -> h.check(0, 0, 1, 2));
    });
  }

  private static void indexesInUse() {
    Tablehouse h = column(5, 6);
    for (int kind = 0; kind <= 2; kind++) {
      h.index(1, 0, kind);
      h.index(1, 1, kind);
    }
    needsNoTransaction(h, () -> h.unindex(1, 1, 0), () -> h.unindex(1, 1, 1), () -> h.unindex(0, 0, 0));
    // From another table, from the own one, from the column itself.
    int[][] links = {{0, 0}, {0, 5}, {2, 2}, {1, 3}, {1, 0}};
    for (int[] from : links) {
      h.link(from[0], from[1], 1, 0, 2);
      refuses(h, STATE, () -> h.unindex(1, 0, 0));
      is(true, () -> h.unindex(1, 0, 1));
      is(true, () -> h.unindex(1, 0, 2));
      is(1, () -> h.index(1, 0, 1));
      is(1, () -> h.index(1, 0, 2));
      is(true, () -> h.unlink(from[0], from[1]));
    }
    // The index of the column that leads somewhere is free.
    h.link(1, 1, 1, 0, 0);
    h.index(1, 1, 0);
    is(true, () -> h.unindex(1, 1, 0));
    h.unlink(1, 1);
    h.lens(1, 0, 0, 1);
    h.index(1, 1, 1);
    refuses(h, STATE, () -> h.unindex(1, 0, 1));
    is(true, () -> h.unindex(1, 1, 1));
    is(true, () -> h.unindex(1, 0, 0));
    is(true, () -> h.unindex(1, 0, 2));
    h.shut();
    is(true, () -> h.unindex(1, 0, 1));
  }

  // ---- promises 6 to 8

  private static void linksAndCube() {
    sentence("Promise 6", "Returns 1; the FAULT -5, if a VALUE of the one is not among those of the "
        + "other (nothing changes).", () -> {
          Tablehouse h = column(5, 6, -1);
          h.index(1, 0, 0);
          h.addThree(5, 7, -1);
          h.addThree(6, -1, -1);
          tells(h, -5, () -> h.link(2, 1, 1, 0, 0), () -> h.link(2, 1, 1, 0, 1),
              () -> h.link(2, 1, 1, 0, 2));
          is(-1, () -> h.ofColumn(2, 1, 4));
          is(1, () -> h.link(2, 0, 1, 0, 2));
          // NULL alone leads everywhere, and where there is only NULL no VALUE is found.
          is(1, () -> h.link(2, 2, 1, 0, 0));
          h.index(1, 1, 0);
          tells(h, -5, () -> h.link(2, 1, 1, 1, 0));
          is(1, () -> h.link(1, 1, 1, 0, 0));
          is(1, () -> h.link(1, 0, 1, 0, 1));
          is(1, () -> h.link(0, 0, 1, 1, 1));
        });
    sentence("Promise 6", "if there is no such TABLE, or COLUMN of it, of the one or the other", () -> {
      Tablehouse h = indexed(0);
      needsColumn(h, (table, column) -> h.link(table, column, 1, 0, 0));
      Tablehouse g = indexed(0);
      needsColumn(g, (table, column) -> g.link(0, 0, table, column, 0));
    });
    sentence("Promise 6", "if kind is not 0 to 2", () -> {
      Tablehouse h = indexed(0);
      needsWithin(h, 0, 2, kind -> h.link(0, kind == 0 ? 0 : 1, 1, 0, kind));
    });
    sentence("Promise 6", "if a transaction is open, the one COLUMN has a LINK, or the other has no "
        + "UNIQUE index", () -> {
          Tablehouse h = column(5);
          h.index(1, 0, 0);
          h.index(1, 1, 1);
          h.index(1, 1, 2);
          h.addThree(7, 7, 7);
          refuses(h, STATE, () -> h.link(0, 0, 1, 1, 0), () -> h.link(0, 0, 1, 2, 0),
              () -> h.link(0, 0, 0, 0, 0));
          needsNoTransaction(h, () -> h.link(0, 0, 1, 0, 0), () -> h.link(2, 0, 1, 0, 0));
          refuses(h, STATE, () -> h.link(0, 0, 1, 0, 0), () -> h.link(0, 0, 1, 0, 1));
          h.unlink(0, 0);
          is(1, () -> h.link(0, 0, 1, 0, 1));
          // To one COLUMN there may lead several, also from one that has one leading to it.
          is(1, () -> h.link(0, 1, 1, 0, 1));
          h.index(2, 1, 0);
          h.put(1, 0, 0, 7);
          is(1, () -> h.link(1, 0, 2, 1, 1));
        });
    sentence("Promise 7", "Returns whether there was one.", () -> {
      Tablehouse h = column(5);
      looks(h, false, () -> h.unlink(0, 0));
      h.index(1, 0, 0);
      h.link(0, 0, 1, 0, 0);
      looks(h, false, () -> h.unlink(1, 0), () -> h.unlink(0, 1));
      tells(h, -5, () -> row(h, 0, 6));
      is(true, () -> h.unlink(0, 0));
      is(-1, () -> h.ofColumn(0, 0, 4));
      is(-1, () -> h.ofColumn(0, 0, 5));
      is(0, () -> row(h, 0, 6));
      looks(h, false, () -> h.unlink(0, 0));
    });
    sentence("Promise 7", NO_COLUMN, () -> {
      Tablehouse h = new Tablehouse();
      needsColumn(h, h::unlink);
    });
    sentence("Promise 7", OPEN, () -> {
      Tablehouse h = indexed(0);
      h.link(0, 0, 1, 0, 0);
      needsNoTransaction(h, () -> h.unlink(0, 0), () -> h.unlink(0, 1));
    });
    sentence("Promise 8", "Returns how many CELLS there are then.", () -> {
      Tablehouse h = column(5, 5, 6);
      is(0, () -> h.cube(0, 0, 1, 2));
      // 5, NULL, NULL and 6, NULL, NULL: four without the first, four with it for each.
      is(12, () -> h.cube(1, 0, 1, 2));
      is(12, () -> h.house(9));
      is(8, () -> h.cube(1, 1, 2, 3));
      is(3, () -> h.cell(-1, -1, -1));
      is(12, () -> h.cube(1, 0, 2, 3));
      is(0, () -> h.cube(2, 0, 1, 2));
      Tablehouse g = new Tablehouse();
      g.sow(0, 12, 0, 1);
      g.sow(0, 12, 12, 1);
      is(169, () -> g.cube(0, 3, 4, 5));
    });
    sentence("Promise 8", "if there is no such TABLE, or one, two or three is no COLUMN of it", () -> {
      Tablehouse h = new Tablehouse();
      needsTable(h, table -> h.cube(table, 0, 1, 2));
      for (int table = 0; table <= 2; table++) {
        int t = table;
        int width = WIDTH[table];
        refuses(h, OUT, () -> h.cube(t, -1, 1, 2), () -> h.cube(t, width, 1, 2),
            () -> h.cube(t, 0, -1, 2), () -> h.cube(t, 0, width, 2), () -> h.cube(t, 0, 1, -1),
            () -> h.cube(t, 0, 1, width), () -> h.cube(t, 0, 1, Integer.MAX_VALUE));
        is(0, () -> h.cube(t, width - 3, width - 2, width - 1));
      }
    });
    sentence("Promise 8", "if they do not rise", () -> {
      Tablehouse h = new Tablehouse();
      refuses(h, BAD, () -> h.cube(0, 1, 1, 2), () -> h.cube(0, 1, 2, 2), () -> h.cube(0, 2, 1, 3),
          () -> h.cube(0, 0, 3, 2), () -> h.cube(0, 2, 1, 0), () -> h.cube(0, 0, 0, 0),
          () -> h.cube(0, 2, 3, 1));
      is(0, () -> h.cube(0, 0, 2, 5));
    });
    sentence("Promise 8", OPEN, () -> {
      Tablehouse h = new Tablehouse();
      needsNoTransaction(h, () -> h.cube(0, 1, 2, 3), () -> h.cube(0, 0, 1, 2));
    });
  }

  // ---- promises 9 to 13

  private static void adding() {
    for (int table = 0; table <= 2; table++) {
      int t = table;
      String promise = "Promise " + (9 + table);
      sentence(promise, "Returns its number, or a FAULT.", () -> {
        Tablehouse h = new Tablehouse();
        h.need(t, 0, true);
        h.check(t, 1, 3, 9);
        h.index(t, 2, 0);
        int[] values = {0, 9, 5, 10, 99, 50};
        is(0, () -> row(h, t, values));
        for (int column = 0; column < WIDTH[t]; column++) {
          same(values[column], h.get(t, 0, column));
        }
        tells(h, -2, () -> row(h, t, -1, 5, 6), () -> row(h, t, -1, 10, 5));
        tells(h, -3, () -> row(h, t, 0, 10, 5), () -> row(h, t, 0, 2, 6));
        tells(h, -4, () -> row(h, t, 0, 5, 5));
        is(1, () -> row(h, t, 0, 3, -1));
        h.link(t, 0, t, 2, 0);
        is(-1, () -> h.ofColumn(t, 0, 4));
        h.put(t, 0, 0, 5);
        h.put(t, 1, 0, 5);
        is(1, () -> h.link(t, 0, t, 2, 0));
        tells(h, -5, () -> row(h, t, 4, 5, 6));
        is(2, () -> row(h, t, 6, 5, 6));
        is(0, () -> h.ofTable((t + 1) % 3, 0));
      });
      sentence(promise, "if one of these is not -1 to 99", () -> {
        Tablehouse h = new Tablehouse();
        for (int column = 0; column < WIDTH[t]; column++) {
          int[] values = new int[6];
          int c = column;
          needsWithin(h, -1, 99, value -> {
            values[c] = value;
            return row(h, t, values);
          });
          is(99, () -> h.get(t, 2 * c + 1, c));
        }
      });
      sentence(promise, "if the TABLE has 24 ROWS", () -> {
        Tablehouse h = new Tablehouse();
        for (int many = 0; many < 24; many++) {
          same(many, row(h, t, -1));
        }
        refuses(h, STATE, () -> row(h, t, -1), () -> row(h, t, 1, 1, 1));
        is(0, () -> row(h, (t + 1) % 3, -1));
        h.drop(t, 23);
        is(23, () -> row(h, t, -1));
        refuses(h, STATE, () -> row(h, t, -1));
      });
    }
    sowing();
  }

  private static void sowing() {
    sentence("Promise 12", "Puts ROWS in, as one CHANGE: the k-th (from 0) has in COLUMN j (from + step "
        + "* k + 7 * j) modulo 100.", () -> {
          Tablehouse h = new Tablehouse();
          h.sow(0, 12, 99, 99);
          int[][] due = {{99, 6, 13, 20, 27, 34}, {98, 5, 12, 19, 26, 33}, {88, 95, 2, 9, 16, 23}};
          int[] rows = {0, 1, 11};
          for (int each = 0; each < 3; each++) {
            for (int column = 0; column < 6; column++) {
              same(due[each][column], h.get(0, rows[each], column));
            }
          }
          // 100 itself is 0.
          h.sow(1, 2, 93, 7);
          is(0, () -> h.get(1, 0, 1));
          is(0, () -> h.get(1, 1, 0));
          is(7, () -> h.get(1, 1, 1));
          h.sow(2, 3, 0, 50);
          is(50, () -> h.get(2, 1, 0));
          is(0, () -> h.get(2, 2, 0));
          is(14, () -> h.get(2, 2, 2));
        });
    sentence("Promise 12", "Returns how many, or a FAULT.", () -> {
      for (int table = 0; table <= 2; table++) {
        Tablehouse h = new Tablehouse();
        int t = table;
        h.index(t, 0, 0);
        h.check(t, 1, 6, 30);
        is(1, () -> h.sow(t, 1, 0, 0));
        is(12, () -> h.sow(t, 12, 1, 1));
        // The last one of them alone, each time.
        tells(h, -4, () -> h.sow(t, 2, 99, 1), () -> h.sow(t, 2, 15, 0));
        tells(h, -3, () -> h.sow(t, 3, 22, 1), () -> h.sow(t, 11, 14, 1));
        h.need(t, 0, true);
        is(2, () -> h.sow(t, 2, 22, 1));
        is(15, () -> h.ofTable(t, 0));
      }
    });
    sentence("Promise 12", NO_TABLE, () -> {
      Tablehouse h = new Tablehouse();
      needsTable(h, table -> h.sow(table, 1, 0, 0));
    });
    sentence("Promise 12", "if many is not 1 to 12, or from or step not 0 to 99", () -> {
      Tablehouse h = new Tablehouse();
      needsWithin(h, 1, 12, many -> h.sow(0, many, 0, 0));
      needsWithin(h, 0, 99, from -> h.sow(1, 1, from, 0));
      needsWithin(h, 0, 99, step -> h.sow(2, 1, 0, step));
    });
    sentence("Promise 12", "if the TABLE would have more than 24 ROWS", () -> {
      for (int table = 0; table <= 2; table++) {
        Tablehouse h = new Tablehouse();
        int t = table;
        h.sow(t, 12, 0, 1);
        is(12, () -> h.sow(t, 12, 0, 1));
        refuses(h, STATE, () -> h.sow(t, 1, 0, 0));
        h.drop(t, 3);
        h.drop(t, 20);
        refuses(h, STATE, () -> h.sow(t, 3, 0, 0), () -> h.sow(t, 12, 0, 0));
        is(2, () -> h.sow(t, 2, 0, 0));
        is(24, () -> h.ofTable(t, 0));
      }
    });
  }

  private static void changing() {
    sentence("Promise 13", "Returns SIZE, or a FAULT.", () -> {
      Tablehouse h = column(5, 6);
      is(1, () -> h.put(1, 0, 0, 0));
      looks(h, 0, () -> h.put(1, 0, 0, 0));
      is(1, () -> h.put(1, 0, 0, 99));
      is(1, () -> h.put(1, 0, 0, -1));
      looks(h, 0, () -> h.put(1, 0, 0, -1));
      h.index(1, 0, 0);
      tells(h, -4, () -> h.put(1, 0, 0, 6));
      h.check(1, 0, 6, 10);
      tells(h, -3, () -> h.put(1, 0, 0, 5), () -> h.put(1, 0, 0, 11));
      h.link(1, 1, 1, 0, 1);
      tells(h, -5, () -> h.put(1, 0, 1, 10));
      is(1, () -> h.put(1, 0, 1, 6));
      // Nothing falls and nothing is let go with a put.
      tells(h, -5, () -> h.put(1, 1, 0, 7), () -> h.put(1, 1, 0, -1));
      is(1, () -> h.put(1, 0, 0, 10));
      h.need(1, 0, true);
      tells(h, -2, () -> h.put(1, 0, 0, -1), () -> h.put(1, 1, 0, -1));
    });
    sentence("Promise 13", "if there is no such TABLE, ROW, or COLUMN", () -> {
      Tablehouse h = new Tablehouse();
      for (int table = 0; table <= 2; table++) {
        h.sow(table, 3, 0, 0);
        h.drop(table, 1);
      }
      needsColumn(h, (table, column) -> h.put(table, 2, column, 5));
      noSuchRow(h, (table, row) -> h.put(table, row, 0, 5));
    });
    sentence("Promise 13", NO_VALUE, () -> {
      Tablehouse h = column(5);
      needsWithin(h, -1, 99, value -> h.put(1, 0, 0, value));
    });
    sentence("Promise 16", "Gives all ROWS that fit LINE a VALUE, or NULL, in a COLUMN, as one CHANGE.",
        () -> {
          Tablehouse h = column(5, 6, 7, -1);
          int[][] due = {{5, 0}, {6, 99}, {7, 99}, {-1, -1}};
          type(h, "A=5").alter(1, 1, 0);
          type(h, "A>5").alter(1, 1, 99);
          for (int row = 0; row < 4; row++) {
            same(due[row][0], h.get(1, row, 0));
            same(due[row][1], h.get(1, row, 1));
            same(-1, h.get(1, row, 2));
          }
          type(h, "-A!").alter(1, 0, -1);
          is(set(0, 1, 2, 3), () -> fitting(h, 1, "A!"));
          is(set(1, 2), () -> fitting(h, 1, "B=99"));
        });
    sentence("Promise 16", "Returns SIZE, or a FAULT.", () -> {
      Tablehouse h = column(5, 6, 7, -1);
      type(h, "A>5|A!");
      is(3, () -> h.alter(1, 1, 9));
      looks(h, 0, () -> h.alter(1, 1, 9));
      is(-1, () -> h.get(1, 0, 1));
      h.put(1, 2, 1, 8);
      is(1, () -> h.alter(1, 1, 9));
      is(3, () -> h.alter(1, 1, -1));
      // What the LINE looks at is changed by it, all at once.
      is(2, () -> h.alter(1, 0, 6));
      is(0, () -> h.alter(1, 0, 6));
      type(h, "A=99");
      looks(h, 0, () -> h.alter(1, 0, 1));
      type(h, "A=5|A=6&B!");
      h.index(1, 2, 0);
      tells(h, -4, () -> h.alter(1, 2, 3));
      h.check(1, 1, 0, 50);
      tells(h, -3, () -> h.alter(1, 1, 51));
      tells(h, -5, () -> h.link(1, 0, 1, 2, 0));
      type(h, "A=5");
      is(1, () -> h.alter(1, 2, 6));
      h.link(1, 3, 1, 2, 0);
      is(1, () -> h.alter(1, 3, 6));
      tells(h, -5, () -> h.alter(1, 2, 7), () -> h.alter(1, 3, 5));
      h.need(1, 0, true);
      tells(h, -2, () -> h.alter(1, 0, -1));
      type(h, "A!");
      looks(h, 0, () -> h.alter(0, 0, 5));
    });
    sentence("Promise 16", NO_COLUMN, () -> {
      Tablehouse h = type(new Tablehouse(), "A!");
      needsColumn(h, (table, column) -> h.alter(table, column, 5));
    });
    sentence("Promise 16", NO_VALUE, () -> {
      Tablehouse h = type(column(5), "A=5");
      needsWithin(h, -1, 99, value -> h.alter(1, 1, value));
    });
    sentence("Promise 16", NOT_RIGHT, () -> {
      Tablehouse h = new Tablehouse();
      needsRight(h, table -> h.alter(table, 0, 1));
    });
    shifting();
  }

  /** Table by table rows 0 and 2 are there, row 1 is no more. */
  private static void noSuchRow(Tablehouse h, OfTwo call) {
    for (int table = 0; table <= 2; table++) {
      for (int row : new int[] {-1, 1, 3, 23, 24, 32, Integer.MIN_VALUE, Integer.MAX_VALUE}) {
        int t = table;
        refuses(h, OUT, () -> call.make(t, row));
      }
    }
    for (int table = 0; table <= 2; table++) {
      int t = table;
      same(false, OUT.equals(answerOf(() -> call.make(t, 0))));
      same(false, OUT.equals(answerOf(() -> call.make(t, 2))));
    }
  }

  private static void shifting() {
    sentence("Promise 17", "Gives all ROWS that fit LINE and have a VALUE v in a COLUMN (v + by) modulo "
        + "100 there, as one CHANGE.", () -> {
          Tablehouse h = column(0, 1, 99, -1);
          h.put(1, 0, 1, 7);
          type(h, "B!");
          is(2, () -> h.shift(1, 0, 1));
          is(0, () -> h.get(1, 0, 0));
          is(2, () -> h.get(1, 1, 0));
          is(0, () -> h.get(1, 2, 0));
          is(-1, () -> h.get(1, 3, 0));
          is(2, () -> h.shift(1, 0, 99));
          is(1, () -> h.get(1, 1, 0));
          is(99, () -> h.get(1, 2, 0));
          is(2, () -> h.shift(1, 0, 99));
          is(0, () -> h.get(1, 1, 0));
          is(98, () -> h.get(1, 2, 0));
          looks(h, 0, () -> h.shift(1, 1, 50));
        });
    sentence("Promise 17", "Returns SIZE, or a FAULT.", () -> {
      Tablehouse h = column(10, 20, 30, -1);
      h.index(1, 0, 0);
      type(h, "A<30|A!");
      looks(h, 0, () -> h.shift(1, 0, 0));
      tells(h, -4, () -> h.shift(1, 0, 10));
      is(2, () -> h.shift(1, 0, 1));
      h.check(1, 0, 11, 50);
      tells(h, -3, () -> h.shift(1, 0, 40), () -> h.shift(1, 0, 99), () -> h.shift(1, 0, 30));
      is(2, () -> h.shift(1, 0, 29));
      type(h, "A>0");
      h.link(1, 1, 1, 0, 2);
      h.put(1, 2, 1, 30);
      tells(h, -5, () -> h.shift(1, 0, 95), () -> h.shift(1, 1, 1));
      looks(h, 0, () -> h.shift(0, 0, 7));
    });
    sentence("Promise 17", NO_COLUMN, () -> {
      Tablehouse h = type(new Tablehouse(), "A!");
      needsColumn(h, (table, column) -> h.shift(table, column, 5));
    });
    sentence("Promise 17", "if by is not 0 to 99", () -> {
      Tablehouse h = type(column(5), "A=5");
      needsWithin(h, 0, 99, by -> h.shift(1, 1, by));
    });
    sentence("Promise 17", NOT_RIGHT, () -> {
      Tablehouse h = new Tablehouse();
      needsRight(h, table -> h.shift(table, 0, 1));
    });
  }

  // ---- promises 14 and 15

  private static void takingOut() {
    sentence("Promise 14", "Returns how many ROWS went, of all TABLES, or a FAULT.", () -> {
      Tablehouse h = column(5, 6, 7);
      h.index(1, 0, 0);
      h.index(0, 0, 0);
      h.link(0, 0, 1, 0, 1);
      h.link(2, 0, 0, 0, 1);
      h.link(2, 1, 1, 0, 2);
      h.addSix(5, 0, 0, 0, 0, 0);
      h.addThree(5, 6, 0);
      h.addThree(5, 7, 0);
      h.addThree(-1, 7, 0);
      is(1, () -> h.drop(0, h.addSix(6, 0, 0, 0, 0, 0)));
      // What is let go has not gone.
      is(1, () -> h.drop(1, 2));
      is(4, () -> h.drop(1, 0));
      is(set(2), () -> h.ofTable(2, 1));
      h.addSix(6, 0, 0, 0, 0, 0);
      h.link(2, 2, 0, 0, 0);
      is(-1, () -> h.ofColumn(2, 2, 4));
      h.put(2, 2, 2, 6);
      h.link(2, 2, 0, 0, 0);
      tells(h, -5, () -> h.drop(0, 0), () -> h.drop(1, 1));
      h.put(2, 2, 1, 6);
      h.need(2, 1, true);
      tells(h, -2, () -> h.drop(1, 1));
      is(1, () -> h.drop(2, 2));
      is(2, () -> h.drop(1, 1));
    });
    sentence("Promise 14", "if there is no such TABLE, or ROW", () -> {
      Tablehouse h = new Tablehouse();
      for (int table = 0; table <= 2; table++) {
        h.sow(table, 3, 0, 0);
        h.drop(table, 1);
      }
      refuses(h, OUT, () -> h.drop(-1, 0), () -> h.drop(3, 0), () -> h.drop(Integer.MAX_VALUE, 0));
      noSuchRow(h, h::drop);
      refuses(h, OUT, () -> h.drop(0, 0), () -> h.drop(2, 2));
    });
    sentence("Promise 15", "Returns how many ROWS went, of all TABLES, or a FAULT.", () -> {
      Tablehouse h = column(5, 6, 7, -1);
      type(h, "A=99");
      looks(h, 0, () -> h.cut(1), () -> h.cut(0));
      h.index(1, 0, 0);
      h.link(2, 0, 1, 0, 1);
      h.link(2, 1, 1, 0, 0);
      h.addThree(6, 7, 0);
      type(h, "A=7|A=5");
      tells(h, -5, () -> h.cut(1));
      // With the row that holds it this one goes, too.
      type(h, "A=7|A=6");
      is(3, () -> h.cut(1));
      is(set(0, 3), () -> h.ofTable(1, 1));
      type(h, "A!|-A!");
      is(2, () -> h.cut(1));
      is(0, () -> h.ofTable(1, 0));
      looks(h, 0, () -> h.cut(1));
      h.sow(0, 12, 0, 0);
      h.sow(0, 12, 0, 0);
      is(24, () -> h.cut(0));
      Tablehouse g = column(5);
      g.index(1, 0, 0);
      g.link(2, 0, 1, 0, 2);
      g.addThree(5, 0, 0);
      g.need(2, 0, true);
      type(g, "A=5");
      tells(g, -2, () -> g.cut(1));
      g.need(2, 0, false);
      is(1, () -> g.cut(1));
    });
    sentence("Promise 15", NO_TABLE, () -> {
      Tablehouse h = type(new Tablehouse(), "A!");
      needsTable(h, h::cut);
    });
    sentence("Promise 15", NOT_RIGHT, () -> {
      Tablehouse h = new Tablehouse();
      h.sow(0, 2, 0, 0);
      needsRight(h, h::cut);
    });
  }

  // ---- promises 18 to 20

  private static void transactions() {
    sentence("Promise 18", "Returns DEEP then.", () -> {
      Tablehouse h = new Tablehouse();
      is(1, h::begin);
      is(2, h::begin);
      h.back();
      is(2, h::begin);
      is(3, h::begin);
      h.commit();
      h.commit();
      is(2, h::begin);
    });
    sentence("Promise 18", "if DEEP is 3", () -> {
      Tablehouse h = new Tablehouse();
      h.begin();
      h.begin();
      h.begin();
      refuses(h, STATE, h::begin);
      h.commit();
      is(3, h::begin);
      refuses(h, STATE, h::begin);
      h.back();
      is(3, h::begin);
    });
    sentence("Promise 19", "Returns the sum of SIZES of the CHANGES since its begin() that were not "
        + "undone (those of inner ones that were committed, too).", () -> {
          Tablehouse h = column(5, 6);
          h.begin();
          is(0, h::commit);
          h.begin();
          h.put(1, 0, 0, 7);
          h.begin();
          h.sow(1, 3, 0, 0);
          is(3, h::commit);
          h.begin();
          h.sow(1, 12, 0, 0);
          is(12, h::back);
          h.put(1, 0, 0, 7);
          h.put(1, 0, 0, 8);
          h.begin();
          h.begin();
          h.drop(1, 0);
          is(1, h::commit);
          is(1, h::commit);
          is(6, () -> h.house(1));
          is(6, h::commit);
          is(0, () -> h.house(1));
          // Of what was before its begin() nothing counts.
          h.begin();
          is(0, h::commit);
        });
    sentence("Promise 19", "if none is open", () -> {
      Tablehouse h = column(5);
      refuses(h, STATE, h::commit);
      h.begin();
      is(0, h::commit);
      refuses(h, STATE, h::commit);
      h.begin();
      h.back();
      refuses(h, STATE, h::commit);
    });
    sentence("Promise 20", "Returns the sum of SIZES of these.", () -> {
      Tablehouse h = column(5, 6);
      h.begin();
      is(0, h::back);
      h.begin();
      h.put(1, 0, 0, 7);
      h.begin();
      h.drop(1, 1);
      h.commit();
      h.begin();
      h.sow(1, 12, 0, 0);
      h.back();
      is(2, h::back);
      is(set(0, 1), () -> h.ofTable(1, 1));
      is(5, () -> h.get(1, 0, 0));
    });
    sentence("Promise 20", "if none is open", () -> {
      Tablehouse h = column(5);
      refuses(h, STATE, h::back);
      h.begin();
      is(0, h::back);
      refuses(h, STATE, h::back);
      h.begin();
      h.commit();
      refuses(h, STATE, h::back);
    });
  }

  // ---- promises 21 to 23

  private static void line() {
    sentence("Promise 21", "Types SIGNS, one after the other.", () -> {
      Tablehouse h = new Tablehouse();
      h.say(-1, 10, -1, 16, 1, -1);
      h.say(-1, -1, -1, -1, -1, -1);
      h.say(2, -1, -1, -1, -1, 21);
      is("A=12&", h::line);
      h.say(0, 26, 25, -1, 24, 23);
      is(")(-", h::line);
    });
    sentence("Promise 21", "Returns the length of LINE then.", () -> {
      Tablehouse h = new Tablehouse();
      is(0, () -> h.say(-1, -1, -1, -1, -1, -1));
      is(6, () -> h.say(0, 25, 0, 25, 0, 25));
      is(7, () -> h.say(-1, -1, -1, 1, -1, -1));
      is(2, () -> h.say(1, 1, 1, 26, 1, 1));
      is(0, () -> h.say(26, -1, -1, -1, -1, -1));
    });
    sentence("Promise 21", "if one is not -1 to 26", () -> {
      Tablehouse h = new Tablehouse();
      for (int place = 0; place < 6; place++) {
        int[] v = {1, 1, 1, 1, 1, 1};
        int p = place;
        needsWithin(h, -1, 26, code -> {
          v[p] = code;
          return h.say(v[0], v[1], v[2], v[3], v[4], v[5]);
        });
        h.say(26, -1, -1, -1, -1, -1);
      }
    });
    sentence("Promise 21", "if LINE would have more than 40 SIGNS at some moment", () -> {
      Tablehouse h = new Tablehouse();
      for (int length = 6; length <= 36; length += 6) {
        h.say(1, 1, 1, 1, 1, 1);
      }
      refuses(h, STATE, () -> h.say(1, 1, 1, 1, 1, -1), () -> h.say(1, 1, 1, 1, 1, 26),
          () -> h.say(1, 1, 1, 1, 1, 1));
      is(39, () -> h.say(1, 1, 1, -1, -1, -1));
      is(40, () -> h.say(-1, -1, -1, -1, -1, 1));
      refuses(h, STATE, () -> h.say(1, 26, 1, 1, 1, 1), () -> h.say(-1, -1, -1, -1, -1, 0));
      is(40, () -> h.say(-1, -1, -1, -1, -1, -1));
      is(5, () -> h.say(26, 1, 1, 1, 1, 1));
    });
    sentence("Promise 22", "Returns LINE.", () -> {
      Tablehouse h = new Tablehouse();
      is("", h::line);
      h.say(10, 16, 0, 7, 21, 23);
      h.say(15, 19, 9, -1, -1, -1);
      looks(h, "A=07&-F~9", h::line);
      h.say(26, -1, -1, -1, -1, -1);
      is("", h::line);
      h.say(24, 25, -1, -1, -1, -1);
      is("()", h::line);
    });
    sentence("Promise 23", "Returns NONE, if LINE is RIGHT for it, otherwise BREAK.", () -> {
      Tablehouse h = new Tablehouse();
      String[] texts = {"", "A", "A!", "A!&", "A!!", "!", "A=D", "A=777", "(A=1", "E!|A!", "((("};
      int[][] due = {{0, 0, 0}, {1, 1, 1}, {-1, -1, -1}, {3, 3, 3}, {2, 2, 2}, {0, 0, 0},
          {-1, -1, 2}, {4, 4, 4}, {4, 4, 4}, {-1, 0, 0}, {2, 2, 2}};
      for (int each = 0; each < texts.length; each++) {
        type(h, texts[each]);
        for (int table = 0; table <= 2; table++) {
          int t = table;
          looks(h, due[each][table], () -> h.breaks(t));
        }
      }
    });
    sentence("Promise 23", NO_TABLE, () -> {
      Tablehouse h = new Tablehouse();
      needsTable(h, h::breaks);
    });
  }

  // ---- promises 24 to 27

  private static void asking() {
    sentence("Promise 24", "Asks for the set of ROWS that fit LINE: a HIT or a MISS.", () -> {
      Tablehouse h = column(5, 6, 7);
      type(h, "A>5");
      is(set(1, 2), () -> h.ask(1));
      is(set(1, 2), () -> h.ask(1));
      is(0, () -> h.ask(0));
      is(0, () -> h.ask(0));
      is(2, () -> h.house(2));
      is(2, () -> h.house(3));
      h.put(1, 0, 0, 99);
      is(set(0, 1, 2), () -> h.ask(1));
      is(3, () -> h.house(3));
      type(h, "A>99");
      is(0, () -> h.ask(1));
      is(4, () -> h.house(3));
    });
    sentence("Promise 24", NO_TABLE, () -> {
      Tablehouse h = type(new Tablehouse(), "A!");
      needsTable(h, h::ask);
    });
    sentence("Promise 24", NOT_RIGHT, () -> {
      Tablehouse h = new Tablehouse();
      needsRight(h, h::ask);
    });
    sentence("Promise 25", "Returns the set of ROWS that fit LINE, by that ROAD (kept ANSWERS are not "
        + "looked at).", () -> {
          Tablehouse h = column(5, -1, 7);
          h.index(1, 0, 1);
          h.index(1, 0, 2);
          type(h, "A!|A=5&-B=1|A~07");
          for (int road = 0; road <= 3; road++) {
            int each = road;
            looks(h, set(0, 1, 2), () -> h.road(1, each));
            looks(h, 0, () -> h.road(0, each));
          }
          h.ask(1);
          for (int road = 0; road <= 3; road++) {
            int each = road;
            looks(h, set(0, 1, 2), () -> h.road(1, each));
          }
          is(0, () -> h.house(2));
        });
    sentence("Promise 25", NO_TABLE, () -> {
      Tablehouse h = type(new Tablehouse(), "A!");
      needsTable(h, table -> h.road(table, 3));
    });
    sentence("Promise 25", "if road is not 0 to 3", () -> {
      Tablehouse h = type(column(5), "A!");
      needsWithin(h, 0, 3, road -> h.road(1, road));
    });
    sentence("Promise 25", NOT_RIGHT, () -> {
      for (int road = 0; road <= 3; road++) {
        Tablehouse h = new Tablehouse();
        int each = road;
        needsRight(h, table -> h.road(table, each));
      }
    });
    sentence("Promise 26", "Returns the number, from 0, of its CHOSEN FACT in it; NONE, if it has none "
        + "or there is no such TERM.", () -> {
          Tablehouse h = column(5, 6, 6);
          h.index(1, 0, 1);
          type(h, "B!&-A=5&(A=5)&A=6&A=5|A=6|B!|A=7&A=8");
          int[] due = {4, 0, -1, 0, -1, -1};
          for (int term = 0; term < due.length; term++) {
            int each = term;
            looks(h, due[term], () -> h.plan(1, each));
          }
          looks(h, -1, () -> h.plan(1, -1), () -> h.plan(1, 39), () -> h.plan(1, 40),
              () -> h.plan(1, 41), () -> h.plan(1, Integer.MIN_VALUE),
              () -> h.plan(1, Integer.MAX_VALUE));
          // The "|" in brackets parts no TERMS of LINE.
          type(h, "(A=5|A=6)&A=5");
          is(1, () -> h.plan(1, 0));
          is(-1, () -> h.plan(1, 1));
        });
    sentence("Promise 26", NO_TABLE, () -> {
      Tablehouse h = type(new Tablehouse(), "A!");
      needsTable(h, table -> h.plan(table, 0));
    });
    sentence("Promise 26", NOT_RIGHT, () -> {
      Tablehouse h = new Tablehouse();
      needsRight(h, table -> h.plan(table, 0));
      type(h, "A!|");
      refuses(h, STATE, () -> h.plan(0, 7), () -> h.plan(0, -1));
    });
    sentence("Promise 27", "Returns COST.", () -> {
      Tablehouse h = column(5, 6, 6, -1);
      h.index(1, 0, 1);
      String[] texts = {"A=7", "A=5", "A=5|A!", "A=6|A!", "A=6|A=5|A!", "A=6|A=6", "A=6|A=6|A=6",
          "A=5|B!", "B!", "A=6&A=5|A=7"};
      int[] due = {0, 1, 2, 3, 4, 4, 4, 4, 4, 1};
      for (int each = 0; each < texts.length; each++) {
        type(h, texts[each]);
        looks(h, due[each], () -> h.cost(1));
        looks(h, 0, () -> h.cost(0));
      }
    });
    sentence("Promise 27", NO_TABLE, () -> {
      Tablehouse h = type(new Tablehouse(), "A!");
      needsTable(h, h::cost);
    });
    sentence("Promise 27", NOT_RIGHT, () -> {
      Tablehouse h = new Tablehouse();
      needsRight(h, h::cost);
    });
  }

  // ---- promises 28 to 30

  private static void answers() {
    sentence("Promise 28", "Returns whether an ANSWER is kept for it and LINE as it is.", () -> {
      Tablehouse h = column(5);
      looks(h, false, () -> h.isKept(1));
      type(h, "A=5");
      looks(h, false, () -> h.isKept(1));
      h.ask(1);
      looks(h, true, () -> h.isKept(1));
      looks(h, false, () -> h.isKept(0), () -> h.isKept(2));
      for (String text : new String[] {"", "A=", "A=05", "A=5|", "A=55", "B=5"}) {
        type(h, text);
        looks(h, false, () -> h.isKept(1));
      }
      type(h, "A=5");
      looks(h, true, () -> h.isKept(1));
      h.put(1, 0, 0, 6);
      looks(h, false, () -> h.isKept(1));
    });
    sentence("Promise 28", NO_TABLE, () -> {
      Tablehouse h = new Tablehouse();
      needsTable(h, h::isKept);
    });
    sentence("Promise 29", "0 its TABLE, 1 its set of ROWS, 2 the set of COLUMNS whose letters its text "
        + "has, 3 the length of that text", () -> {
          Tablehouse h = new Tablehouse();
          h.sow(0, 12, 0, 0);
          h.sow(0, 12, 0, 0);
          type(h, "F=E|-(A!&D~47)").ask(0);
          type(h, "-".repeat(38) + "B!").ask(2);
          type(h, "A!").ask(1);
          int[][] due = {{0, 16777215, set(0, 3, 4, 5), 14}, {2, 0, set(1), 40}, {1, 0, set(0), 2}};
          for (int answer = 0; answer < 3; answer++) {
            for (int what = 0; what <= 3; what++) {
              same(due[answer][what], h.kept(answer, what));
            }
          }
        });
    sentence("Promise 29", "if there is no such ANSWER", () -> {
      Tablehouse h = new Tablehouse();
      refuses(h, OUT, () -> h.kept(0, 0));
      for (int number = 1; number <= 6; number++) {
        type(h, "A=" + number).ask(0);
        int many = Math.min(number, 5);
        is(3, () -> h.kept(many - 1, 3));
        refuses(h, OUT, () -> h.kept(many, 3), () -> h.kept(-1, 3));
      }
      refuses(h, OUT, () -> h.kept(Integer.MAX_VALUE, 0), () -> h.kept(Integer.MIN_VALUE, 0));
      row(h, 0, 1);
      refuses(h, OUT, () -> h.kept(0, 0));
    });
    sentence("Promise 29", "if what is not 0 to 3", () -> {
      Tablehouse h = type(new Tablehouse(), "A!");
      h.ask(0);
      needsWithin(h, 0, 3, what -> h.kept(0, what));
    });
    sentence("Promise 30", "Tries to write a ROW into a kept ANSWER, which is never let.", () -> {
      Tablehouse h = column(5);
      for (int number = 1; number <= 5; number++) {
        type(h, "A=" + number).ask(1);
      }
      tells(h, -9, () -> h.scratch(0), () -> h.scratch(4));
      h.begin();
      tells(h, -9, () -> h.scratch(2));
      is(3, () -> h.house(7));
    });
    sentence("Promise 30", "if there is no such ANSWER", () -> {
      Tablehouse h = type(new Tablehouse(), "A!");
      refuses(h, OUT, () -> h.scratch(0));
      h.ask(0);
      refuses(h, OUT, () -> h.scratch(1), () -> h.scratch(-1), () -> h.scratch(Integer.MAX_VALUE),
          () -> h.scratch(Integer.MIN_VALUE));
      is(-9, () -> h.scratch(0));
    });
  }

  // ---- promises 31 to 33

  private static final String NOT_ORDERED = "if the COLUMN has no ORDERED index";

  /** Not let where there is none of that kind, be there others, and no more when it has gone. */
  private static void needsKind(int kind, OfHouse call) {
    Tablehouse h = column(5, -1);
    refuses(h, STATE, () -> call.make(h));
    h.index(1, 0, (kind + 1) % 3);
    h.index(1, 0, (kind + 2) % 3);
    h.index(1, 1, kind);
    h.index(0, 0, kind);
    refuses(h, STATE, () -> call.make(h));
    h.index(1, 0, kind);
    same(false, STATE.equals(answerOf(() -> call.make(h))));
    h.shut();
    h.unindex(1, 0, kind);
    refuses(h, STATE, () -> call.make(h));
  }

  private interface OfHouse {
    Object make(Tablehouse h);
  }

  private static void ordered() {
    sentence("Promise 31", "Returns the least or greatest VALUE of the ORDERED index; -9, if there is "
        + "none in it.", () -> {
          Tablehouse h = new Tablehouse();
          h.index(1, 0, 1);
          tells(h, -9, () -> h.edge(1, 0, false), () -> h.edge(1, 0, true));
          row(h, 1, -1);
          tells(h, -9, () -> h.edge(1, 0, false), () -> h.edge(1, 0, true));
          row(h, 1, 0);
          looks(h, 0, () -> h.edge(1, 0, false), () -> h.edge(1, 0, true));
          row(h, 1, 99);
          looks(h, 0, () -> h.edge(1, 0, false));
          looks(h, 99, () -> h.edge(1, 0, true));
          h.put(1, 1, 0, 98);
          h.drop(1, 2);
          looks(h, 98, () -> h.edge(1, 0, false), () -> h.edge(1, 0, true));
          h.drop(1, 1);
          tells(h, -9, () -> h.edge(1, 0, false));
        });
    sentence("Promise 31", A_COLUMN, () -> ofEachColumn(1, (h, table, column) -> {
      same(10 + column, h.edge(table, column, false));
      same(20 + column, h.edge(table, column, true));
    }));
    sentence("Promise 31", NO_COLUMN, () -> {
      Tablehouse h = indexed(1);
      needsColumn(h, (table, column) -> h.edge(table, column, false));
    });
    sentence("Promise 31", NOT_ORDERED, () -> needsKind(1, h -> h.edge(1, 0, true)));
    sentence("Promise 32", "0 the greatest VALUE that is no greater, 1 the greatest that is less, 2 the "
        + "least that is no less, 3 the least that is greater", () -> {
          Tablehouse h = column(10, 20, 20, -1);
          h.index(1, 0, 1);
          int[][] due = {{0, -1, -1, 10, 10}, {9, -1, -1, 10, 10}, {10, 10, -1, 10, 20},
              {11, 10, 10, 20, 20}, {19, 10, 10, 20, 20}, {20, 20, 10, 20, -1}, {21, 20, 20, -1, -1},
              {99, 20, 20, -1, -1}};
          for (int[] each : due) {
            for (int way = 0; way <= 3; way++) {
              same(each[1 + way], h.near(1, 0, each[0], way));
            }
          }
          is(0, () -> h.house(7));
        });
    sentence("Promise 32", "Returns that VALUE of the ORDERED index, or NONE; -9 for NULL.", () -> {
      Tablehouse h = column(0, 99, -1);
      h.index(1, 0, 1);
      int[][] due = {{0, 0, -1, 0, 99}, {99, 99, 0, 99, -1}, {50, 0, 0, 99, 99}};
      for (int[] each : due) {
        for (int way = 0; way <= 3; way++) {
          int w = way;
          looks(h, each[1 + way], () -> h.near(1, 0, each[0], w));
        }
      }
      for (int way = 0; way <= 3; way++) {
        int w = way;
        tells(h, -9, () -> h.near(1, 0, -1, w));
      }
      h.drop(1, 0);
      h.drop(1, 1);
      looks(h, -1, () -> h.near(1, 0, 99, 0), () -> h.near(1, 0, 99, 1), () -> h.near(1, 0, 0, 2),
          () -> h.near(1, 0, 0, 3));
    });
    sentence("Promise 32", A_COLUMN, () -> ofEachColumn(1, (h, table, column) -> {
      int[] due = {20 + column, 10 + column, 20 + column, -1};
      for (int way = 0; way <= 3; way++) {
        same(due[way], h.near(table, column, 20 + column, way));
      }
    }));
    sentence("Promise 32", NO_COLUMN, () -> {
      Tablehouse h = indexed(1);
      needsColumn(h, (table, column) -> h.near(table, column, 5, 0));
    });
    sentence("Promise 32", "if value is not -1 to 99, or way not 0 to 3", () -> {
      Tablehouse h = indexed(1);
      for (int way = 0; way <= 3; way++) {
        int w = way;
        needsWithin(h, -1, 99, value -> h.near(0, 0, value, w));
      }
      needsWithin(h, 0, 3, way -> h.near(0, 0, 5, way));
      needsWithin(h, 0, 3, way -> h.near(0, 0, -1, way));
    });
    sentence("Promise 32", NOT_ORDERED, () -> {
      needsKind(1, h -> h.near(1, 0, 5, 0));
      needsKind(1, h -> h.near(1, 0, -1, 3));
    });
    sentence("Promise 33", "Returns the set of ROWS under it in the ORDERED index; -9 for NULL.", () -> {
      Tablehouse h = column(0, 99, 99, -1);
      h.index(1, 0, 1);
      looks(h, set(0), () -> h.under(1, 0, 0));
      looks(h, set(1, 2), () -> h.under(1, 0, 99));
      looks(h, 0, () -> h.under(1, 0, 1), () -> h.under(1, 0, 98));
      tells(h, -9, () -> h.under(1, 0, -1));
      h.drop(1, 2);
      looks(h, set(1), () -> h.under(1, 0, 99));
    });
    sentence("Promise 33", A_COLUMN, () -> ofEachColumn(1, (h, table, column) -> {
      same(1, h.under(table, column, 10 + column));
      same(2, h.under(table, column, 20 + column));
      same(0, h.under(table, column, 9 + column));
    }));
    sentence("Promise 33", NO_COLUMN, () -> {
      Tablehouse h = indexed(1);
      needsColumn(h, (table, column) -> h.under(table, column, 5));
    });
    sentence("Promise 33", NO_VALUE, () -> {
      Tablehouse h = indexed(1);
      needsWithin(h, -1, 99, value -> h.under(0, 0, value));
    });
    sentence("Promise 33", NOT_ORDERED, () -> {
      needsKind(1, h -> h.under(1, 0, 5));
      needsKind(1, h -> h.under(1, 0, -1));
    });
  }

  /** Each column by itself: in row 0 there are 10, 11, 12 and so on, in row 1 20, 21, 22. */
  private static void ofEachColumn(int kind, AtColumn call) {
    for (int table = 0; table <= 2; table++) {
      Tablehouse h = new Tablehouse();
      row(h, table, 10, 11, 12, 13, 14, 15);
      row(h, table, 20, 21, 22, 23, 24, 25);
      for (int column = 0; column < WIDTH[table]; column++) {
        int other = (column + 1) % WIDTH[table];
        h.index(table, column, kind);
        call.look(h, table, column);
        // What another column has does not matter.
        h.put(table, 0, other, 99);
        call.look(h, table, column);
        h.put(table, 0, other, 10 + other);
      }
    }
  }

  private interface AtColumn {
    void look(Tablehouse h, int table, int column);
  }

  // ---- promises 34 to 36

  private static void otherIndexes() {
    sentence("Promise 34", "Returns the ROW under it in the UNIQUE index, or NONE (for NULL, too).", () -> {
      Tablehouse h = column(99, 0, -1);
      h.index(1, 0, 0);
      looks(h, 0, () -> h.whose(1, 0, 99));
      looks(h, 1, () -> h.whose(1, 0, 0));
      looks(h, -1, () -> h.whose(1, 0, 1), () -> h.whose(1, 0, 98), () -> h.whose(1, 0, -1));
      h.drop(1, 0);
      looks(h, -1, () -> h.whose(1, 0, 99));
      h.put(1, 2, 0, 99);
      looks(h, 2, () -> h.whose(1, 0, 99));
      is(0, () -> h.house(7));
    });
    sentence("Promise 34", A_COLUMN, () -> ofEachColumn(0, (h, table, column) -> {
      same(0, h.whose(table, column, 10 + column));
      same(1, h.whose(table, column, 20 + column));
      same(-1, h.whose(table, column, 11 + column));
    }));
    sentence("Promise 34", NO_COLUMN, () -> {
      Tablehouse h = indexed(0);
      needsColumn(h, (table, column) -> h.whose(table, column, 5));
    });
    sentence("Promise 34", NO_VALUE, () -> {
      Tablehouse h = indexed(0);
      needsWithin(h, -1, 99, value -> h.whose(0, 0, value));
    });
    sentence("Promise 34", "if the COLUMN has no UNIQUE index", () -> {
      needsKind(0, h -> h.whose(1, 0, 5));
      needsKind(0, h -> h.whose(1, 0, -1));
    });
    sentence("Promise 35", "Returns the set of ROWS whose WORD there contains the SYLLABLE of the first "
        + "digit, followed by that of the second, if there is one.", () -> {
          // "aabab", "aa", "baabaa", "babbab", none
          Tablehouse h = column(47, 0, 99, 77, -1);
          h.index(1, 0, 2);
          looks(h, set(0, 1, 2, 3), () -> h.spelled(1, 0, 0, -1));
          looks(h, set(0, 3), () -> h.spelled(1, 0, 7, -1));
          looks(h, set(0), () -> h.spelled(1, 0, 4, 7), () -> h.spelled(1, 0, 0, 7));
          looks(h, set(2), () -> h.spelled(1, 0, 9, 9), () -> h.spelled(1, 0, 9, -1));
          looks(h, set(3), () -> h.spelled(1, 0, 7, 7), () -> h.spelled(1, 0, 5, -1));
          looks(h, set(0, 1, 2), () -> h.spelled(1, 0, 0, 0));
          looks(h, 0, () -> h.spelled(1, 0, 8, 8), () -> h.spelled(1, 0, 7, 4));
        });
    sentence("Promise 35", A_COLUMN, () -> ofEachColumn(2, (h, table, column) -> {
      same(true, (h.spelled(table, column, 1, column) & 1) == 1);
      same(true, (h.spelled(table, column, 2, column) & 2) == 2);
      same(0, h.spelled(table, column, 9, 9));
    }));
    sentence("Promise 35", NO_COLUMN, () -> {
      Tablehouse h = indexed(2);
      needsColumn(h, (table, column) -> h.spelled(table, column, 0, 0));
    });
    sentence("Promise 35", "if one is not 0 to 9, or two not -1 to 9", () -> {
      Tablehouse h = indexed(2);
      needsWithin(h, 0, 9, one -> h.spelled(0, 0, one, 0));
      needsWithin(h, 0, 9, one -> h.spelled(0, 0, one, -1));
      needsWithin(h, -1, 9, two -> h.spelled(0, 0, 0, two));
    });
    sentence("Promise 35", "if the COLUMN has no WORD index", () ->
        needsKind(2, h -> h.spelled(1, 0, 0, -1)));
    sentence("Promise 36", "Returns the k-th (from 0) of all texts under which ROWS stand in the WORD "
        + "index, in the order of a dictionary (\"a\", \"aa\", \"ab\", \"b\"); \"\", if there is none.",
        () -> {
          Tablehouse h = new Tablehouse();
          h.index(1, 0, 2);
          looks(h, "", () -> h.ending(1, 0, 0));
          row(h, 1, -1);
          looks(h, "", () -> h.ending(1, 0, 0));
          // "aa" and "ab"
          row(h, 1, 0);
          row(h, 1, 1);
          String[] due = {"a", "aa", "ab", "b", ""};
          for (int k = 0; k < due.length; k++) {
            int each = k;
            looks(h, due[k], () -> h.ending(1, 0, each));
          }
          looks(h, "", () -> h.ending(1, 0, -1), () -> h.ending(1, 0, 126),
              () -> h.ending(1, 0, Integer.MAX_VALUE), () -> h.ending(1, 0, Integer.MIN_VALUE));
          // The longest ones, "baabaa" (of two rows) and "bababb": each text but once.
          h.put(1, 0, 0, 99);
          h.put(1, 1, 0, 99);
          h.put(1, 2, 0, 78);
          String[] more = {"a", "aa", "aabaa", "abaa", "ababb", "abb", "b", "baa", "baabaa",
              "bababb", "babb", "bb", ""};
          for (int k = 0; k < more.length; k++) {
            same(more[k], h.ending(1, 0, k));
          }
        });
    sentence("Promise 36", A_COLUMN, () -> ofEachColumn(2, (h, table, column) -> {
      // WORDS "ba" and "aba", "bb" and "abb", "bab" and "abab", and so on: the last of all texts.
      String[] last = {"ba", "bb", "bab", "bba", "baa", "bbb"};
      int many = h.ofColumn(table, column, 8);
      same(last[column], h.ending(table, column, many - 1));
      same("", h.ending(table, column, many));
    }));
    sentence("Promise 36", NO_COLUMN, () -> {
      Tablehouse h = indexed(2);
      needsColumn(h, (table, column) -> h.ending(table, column, 0));
    });
    sentence("Promise 36", "if the COLUMN has no WORD index", () -> {
      needsKind(2, h -> h.ending(1, 0, 0));
      needsKind(2, h -> h.ending(1, 0, -1));
    });
  }

  // ---- promises 37 to 41

  private static void lenses() {
    sentence("Promise 37", "Returns its number; -9, if low is greater than high (nothing changes).", () -> {
      Tablehouse h = column(5);
      h.index(1, 0, 1);
      tells(h, -9, () -> h.lens(1, 0, 2, 1), () -> h.lens(1, 0, 99, 1), () -> h.lens(1, 0, 99, 98));
      is(0, () -> h.house(8));
      is(0, () -> h.lens(1, 0, 0, 100));
      is(1, () -> h.lens(1, 0, 99, 100));
      tells(h, -9, () -> h.lens(1, 0, 50, 49));
      is(2, () -> h.lens(1, 0, 0, 1));
      is(3, () -> h.lens(1, 0, 0, 100));
      h.shut();
      is(0, () -> h.lens(1, 0, 98, 99));
    });
    sentence("Promise 37", NO_COLUMN, () -> {
      Tablehouse h = indexed(1);
      needsColumn(h, (table, column) -> h.lens(table, column, 0, 1));
    });
    sentence("Promise 37", "if low is not 0 to 99, high not 1 to 100, or high is low", () -> {
      Tablehouse h = indexed(1);
      needsWithin(h, 0, 99, low -> h.lens(0, 0, low, 100));
      needsWithin(h, 1, 100, high -> h.lens(0, 0, 0, high));
      h.shut();
      for (int both = 1; both <= 99; both += 49) {
        int number = both;
        refuses(h, BAD, () -> h.lens(0, 0, number, number));
      }
      refuses(h, BAD, () -> h.lens(0, 0, 0, 0), () -> h.lens(0, 0, 100, 100),
          () -> h.lens(0, 0, 100, 1), () -> h.lens(0, 0, 5, 0));
    });
    sentence("Promise 37", "if the COLUMN has no ORDERED index, or there are 4 LENSES", () -> {
      needsKind(1, h -> h.lens(1, 0, 0, 1));
      needsKind(1, h -> h.lens(1, 0, 9, 1));
      Tablehouse h = indexed(1);
      for (int lens = 0; lens < 4; lens++) {
        same(lens, h.lens(lens % 3, 1, 0, 1));
      }
      refuses(h, STATE, () -> h.lens(0, 0, 0, 1), () -> h.lens(0, 0, 9, 1));
      h.shut();
      is(0, () -> h.lens(0, 0, 0, 1));
    });
    sentence("Promise 38", "Returns how many VALUES it shows then; -9, if low is greater than high, or "
        + "low or high is not LOW to HIGH as they were (nothing changes).", () -> {
          Tablehouse h = column(10, 19, 20, 20, 39, 40, -1);
          h.index(1, 0, 1);
          h.lens(1, 0, 0, 100);
          h.lens(1, 0, 0, 100);
          is(5, () -> h.narrow(0, 0, 100));
          is(4, () -> h.narrow(0, 10, 40));
          tells(h, -9, () -> h.narrow(0, 9, 40), () -> h.narrow(0, 10, 41), () -> h.narrow(0, 41, 42),
              () -> h.narrow(0, 8, 9), () -> h.narrow(0, 30, 20), () -> h.narrow(0, 40, 10));
          is(10, () -> h.ofLens(0, 0));
          is(40, () -> h.ofLens(0, 1));
          is(4, () -> h.narrow(0, 10, 40));
          is(1, () -> h.narrow(0, 39, 40));
          is(5, () -> h.narrow(1, 10, 41));
          is(0, () -> h.narrow(1, 11, 12));
        });
    sentence("Promise 38", "if there is no such LENS", () ->
        needsLens((h, lens) -> h.narrow(lens, 5, 9)));
    sentence("Promise 38", "if low is not 0 to 99, high not 1 to 100, or high is low", () -> {
      Tablehouse h = column(5);
      h.index(1, 0, 1);
      h.lens(1, 0, 0, 100);
      needsWithin(h, 0, 99, low -> h.narrow(0, low, low == 0 ? 100 : 1));
      needsWithin(h, 1, 100, high -> h.narrow(0, high == 100 ? 0 : 50, high));
      refuses(h, BAD, () -> h.narrow(0, 7, 7), () -> h.narrow(0, 1, 1), () -> h.narrow(0, 99, 99),
          () -> h.narrow(0, 100, 100), () -> h.narrow(0, 0, 0));
    });
    sentence("Promise 39", "0 LOW, 1 HIGH, 2 how many VALUES it shows, 3 the set of ROWS that stand "
        + "under these, 4 the least, 5 the greatest of these (NONE, if there is none)", () -> {
          Tablehouse h = column(9, 10, 29, 30, -1, 10);
          h.index(1, 0, 1);
          h.lens(1, 0, 10, 30);
          h.lens(1, 0, 11, 29);
          h.lens(1, 0, 0, 100);
          int[][] due = {{10, 30, 2, set(1, 2, 5), 10, 29}, {11, 29, 0, 0, -1, -1},
              {0, 100, 4, set(0, 1, 2, 3, 5), 9, 30}};
          for (int lens = 0; lens < 3; lens++) {
            for (int what = 0; what <= 5; what++) {
              same(due[lens][what], h.ofLens(lens, what));
            }
          }
          h.put(1, 0, 0, 0);
          h.put(1, 3, 0, 99);
          is(0, () -> h.ofLens(2, 4));
          is(99, () -> h.ofLens(2, 5));
        });
    sentence("Promise 39", "if there is no such LENS", () ->
        needsLens((h, lens) -> h.ofLens(lens, 3)));
    sentence("Promise 39", "if what is not 0 to 5", () -> {
      Tablehouse h = indexed(1);
      h.lens(0, 0, 0, 1);
      needsWithin(h, 0, 5, what -> h.ofLens(0, what));
    });
    sentence("Promise 40", "Returns how many ROWS went, of all TABLES, or a FAULT.", () -> {
      Tablehouse h = column(9, 10, 10, 29, 30, -1);
      h.index(1, 0, 1);
      h.lens(1, 0, 10, 30);
      h.lens(1, 0, 40, 50);
      looks(h, 0, () -> h.sweep(1));
      is(3, () -> h.sweep(0));
      is(set(0, 4, 5), () -> h.ofTable(1, 1));
      looks(h, 0, () -> h.sweep(0));
      h.index(1, 0, 0);
      h.link(2, 0, 1, 0, 1);
      h.link(2, 1, 1, 0, 2);
      h.link(2, 2, 1, 0, 0);
      h.addThree(9, -1, -1);
      h.addThree(30, -1, -1);
      h.addThree(-1, 9, -1);
      h.shut();
      h.lens(1, 0, 0, 30);
      h.need(2, 1, false);
      is(2, () -> h.sweep(0));
      is(-1, () -> h.get(2, 2, 1));
      h.put(2, 2, 2, 30);
      h.lens(1, 0, 30, 31);
      tells(h, -5, () -> h.sweep(1));
      h.put(2, 2, 2, -1);
      is(2, () -> h.sweep(1));
      is(2, () -> h.house(8));
    });
    sentence("Promise 40", "if there is no such LENS", () -> needsLens((h, lens) -> h.sweep(lens)));
    sentence("Promise 41", "Returns how many these were.", () -> {
      Tablehouse h = indexed(1);
      looks(h, 0, h::shut);
      for (int lens = 0; lens < 4; lens++) {
        h.lens(0, 0, 0, 1);
      }
      is(4, h::shut);
      looks(h, 0, h::shut);
      h.lens(0, 0, 0, 1);
      is(1, h::shut);
      is(0, () -> h.house(8));
      refuses(h, OUT, () -> h.ofLens(0, 0));
    });
  }

  private interface AtLens {
    Object make(Tablehouse h, int lens);
  }

  private static void needsLens(AtLens call) {
    Tablehouse h = indexed(1);
    refuses(h, OUT, () -> call.make(h, 0));
    for (int many = 1; many <= 4; many++) {
      int now = many;
      h.lens(0, 0, 0, 100);
      same(false, OUT.equals(answerOf(() -> call.make(h, now - 1))));
      refuses(h, OUT, () -> call.make(h, now), () -> call.make(h, -1));
    }
    refuses(h, OUT, () -> call.make(h, Integer.MAX_VALUE), () -> call.make(h, Integer.MIN_VALUE));
    h.shut();
    refuses(h, OUT, () -> call.make(h, 0));
  }

  // ---- promises 42 and 43

  private static void joins() {
    sentence("Promise 42", "Returns how many PAIRS their join has, by that WAY.", () -> {
      Tablehouse h = column(0, 99, -1, 99);
      h.addThree(99, -1, 5);
      h.addThree(99, -1, 5);
      h.addThree(0, -1, -1);
      for (int way = 0; way <= 2; way++) {
        int w = way;
        looks(h, 5, () -> h.join(1, 0, 2, 0, w), () -> h.join(2, 0, 1, 0, w),
            () -> h.join(1, 0, 1, 0, w), () -> h.join(2, 0, 2, 0, w));
        looks(h, 4, () -> h.join(2, 2, 2, 2, w));
        looks(h, 0, () -> h.join(1, 0, 2, 1, w), () -> h.join(2, 1, 2, 1, w),
            () -> h.join(1, 0, 2, 2, w), () -> h.join(0, 0, 1, 0, w), () -> h.join(1, 0, 0, 0, w));
      }
    });
    sentence("Promise 42", NO_COLUMN, () -> {
      Tablehouse h = new Tablehouse();
      needsColumn(h, (table, column) -> h.join(table, column, 0, 0, 0));
      Tablehouse g = new Tablehouse();
      needsColumn(g, (table, column) -> g.join(0, 0, table, column, 0));
    });
    sentence("Promise 42", "if way is not 0 to 2", () -> {
      Tablehouse h = column(5);
      needsWithin(h, 0, 2, way -> h.join(1, 0, 1, 0, way));
    });
    sentence("Promise 43", "Returns of the k-th PAIR (from 0) 32 * the first ROW + the second; NONE, if "
        + "there is none.", () -> {
          Tablehouse h = column(7, -1, 5, 7);
          h.addThree(5, -1, -1);
          h.addThree(7, -1, -1);
          h.addThree(7, -1, -1);
          int[] due = {1, 2, 64, 97, 98, -1};
          for (int k = 0; k < due.length; k++) {
            int each = k;
            looks(h, due[k], () -> h.pair(1, 0, 2, 0, each));
          }
          looks(h, -1, () -> h.pair(1, 0, 2, 0, -1), () -> h.pair(1, 0, 2, 0, Integer.MAX_VALUE),
              () -> h.pair(1, 0, 2, 0, Integer.MIN_VALUE), () -> h.pair(1, 1, 2, 1, 0),
              () -> h.pair(0, 0, 2, 0, 0));
          // As many as there can be.
          h.sow(0, 12, 5, 0);
          h.sow(0, 12, 5, 0);
          is(0, () -> h.pair(0, 0, 0, 0, 0));
          is(767 - 8, () -> h.pair(0, 0, 0, 0, 575));
          is(-1, () -> h.pair(0, 0, 0, 0, 576));
        });
    sentence("Promise 43", "- `toColumn`: that COLUMN", PromiseEdges::pairsOfEachColumn);
    sentence("Promise 43", NO_COLUMN, () -> {
      Tablehouse h = new Tablehouse();
      needsColumn(h, (table, column) -> h.pair(table, column, 0, 0, 0));
      Tablehouse g = new Tablehouse();
      needsColumn(g, (table, column) -> g.pair(0, 0, table, column, 0));
    });
  }

  private static void pairsOfEachColumn() {
    int[][] values = {{1, 2, 3, 4, 5, 6}, {3, 1, 2, 6, 4, 5}};
    Tablehouse h = new Tablehouse();
    for (int table = 0; table <= 2; table++) {
      row(h, table, values[0]);
      row(h, table, values[1]);
    }
    for (int column = 0; column < 6; column++) {
      for (int table = 1; table <= 2; table++) {
        for (int toColumn = 0; toColumn < WIDTH[table]; toColumn++) {
          int first = -1;
          int many = 0;
          for (int pair = 3; pair >= 0; pair--) {
            if (values[pair / 2][column] == values[pair % 2][toColumn]) {
              first = 32 * (pair / 2) + pair % 2;
              many++;
            }
          }
          same(first, h.pair(0, column, table, toColumn, 0));
          same(many, h.join(0, column, table, toColumn, (column + toColumn) % 3));
        }
      }
    }
  }

  // ---- promises 44 to 47

  private static void groups() {
    sentence("Promise 44", "Returns how many GROUPS.", () -> {
      Tablehouse h = new Tablehouse();
      looks(h, 0, () -> h.groups(0, 0), () -> h.groups(1, 3));
      row(h, 1, 5);
      looks(h, 1, () -> h.groups(1, 0), () -> h.groups(1, 1));
      row(h, 1, 5, 5);
      row(h, 1, -1, 0);
      looks(h, 2, () -> h.groups(1, 0));
      looks(h, 3, () -> h.groups(1, 1));
      h.drop(1, 2);
      looks(h, 1, () -> h.groups(1, 0));
      h.sow(0, 12, 0, 1);
      h.sow(0, 12, 12, 1);
      looks(h, 24, () -> h.groups(0, 5));
    });
    sentence("Promise 44", NO_COLUMN, () -> {
      Tablehouse h = new Tablehouse();
      needsColumn(h, h::groups);
    });
    sentence("Promise 45", "0 its VALUE (or NULL), 1 its set of ROWS, 2 how many these are, and of "
        + "their VALUES in the other COLUMN (of which NULL is none) 3 the sum (0, if there is none), 4 "
        + "the least, 5 the greatest (each of these two NONE, if there is none)", () -> {
          Tablehouse h = new Tablehouse();
          int[][] rows = {{99, 10}, {0, -1}, {-1, 7}, {99, -1}, {99, 3}, {-1, 0}};
          for (int[] values : rows) {
            row(h, 1, values);
          }
          int[][] due = {{0, set(1), 1, 0, -1, -1}, {99, set(0, 3, 4), 3, 13, 3, 10},
              {-1, set(2, 5), 2, 7, 0, 7}};
          for (int k = 0; k < 3; k++) {
            for (int what = 0; what <= 5; what++) {
              same(due[k][what], h.group(1, 0, 1, k, what));
            }
          }
          h.put(1, 0, 1, 1);
          is(1, () -> h.group(1, 0, 1, 1, 4));
          h.put(1, 0, 1, 9);
          is(9, () -> h.group(1, 0, 1, 1, 5));
          // Of the COLUMN of the GROUPS itself.
          int[][] own = {{0, 0, 0}, {297, 99, 99}, {0, -1, -1}};
          for (int k = 0; k < 3; k++) {
            for (int what = 3; what <= 5; what++) {
              same(own[k][what - 3], h.group(1, 0, 0, k, what));
            }
          }
        });
    sentence("Promise 45", "- `by`: the COLUMN of the GROUPS - `of`: the COLUMN that is asked about", () -> {
      for (int table = 0; table <= 2; table++) {
        Tablehouse h = new Tablehouse();
        row(h, table, 1, 2, 3, 4, 5, 6);
        row(h, table, 20, 20, 20, 20, 20, 20);
        row(h, table, 1, 2, 3, 4, 5, 6);
        for (int by = 0; by < WIDTH[table]; by++) {
          for (int of = 0; of < WIDTH[table]; of++) {
            int[] due = {1 + by, set(0, 2), 2, 2 + 2 * of, 1 + of, 1 + of};
            for (int what = 0; what <= 5; what++) {
              same(due[what], h.group(table, by, of, 0, what));
            }
          }
        }
      }
    });
    sentence("Promise 45", "if there is no such TABLE, COLUMN (the one or the other), or GROUP", () -> {
      Tablehouse h = new Tablehouse();
      for (int table = 0; table <= 2; table++) {
        h.sow(table, 1, 0, 0);
      }
      needsColumn(h, (table, column) -> h.group(table, column, 0, 0, 0));
      needsColumn(h, (table, column) -> h.group(table, 0, column, 0, 0));
      Tablehouse g = column(5, 6);
      refuses(g, OUT, () -> g.group(0, 0, 0, 0, 0), () -> g.group(1, 0, 0, 2, 0),
          () -> g.group(1, 0, 0, -1, 0), () -> g.group(1, 0, 0, Integer.MAX_VALUE, 0),
          () -> g.group(1, 0, 0, Integer.MIN_VALUE, 0), () -> g.group(1, 0, 0, 2, 9));
      row(g, 1, -1);
      is(-1, () -> g.group(1, 0, 0, 2, 0));
      refuses(g, OUT, () -> g.group(1, 0, 0, 3, 0));
    });
    sentence("Promise 45", "if what is not 0 to 5", () -> {
      Tablehouse h = column(5);
      needsWithin(h, 0, 5, what -> h.group(1, 0, 0, 0, what));
    });
    sentence("Promise 46", "of the VALUES there 0 the sum (0, if there is none), 1 how many different "
        + "ones, 2 the least, 3 the greatest (each of these two NONE, if there is none); 4 how many ROWS "
        + "have NULL there", () -> {
          Tablehouse h = column(4, -1, 99, 4, 0, -1);
          int[][] due = {{107, 3, 0, 99, 2}, {0, 0, -1, -1, 6}};
          for (int column = 0; column <= 1; column++) {
            for (int what = 0; what <= 4; what++) {
              same(due[column][what], h.total(1, column, what));
            }
          }
          int[] none = {0, 0, -1, -1, 0};
          for (int what = 0; what <= 4; what++) {
            same(none[what], h.total(0, 0, what));
          }
          Tablehouse g = column(4, 50, 5);
          is(4, () -> g.total(1, 0, 2));
          g.put(1, 0, 0, 60);
          is(60, () -> g.total(1, 0, 3));
          h.sow(2, 12, 99, 0);
          h.sow(2, 12, 99, 0);
          is(2376, () -> h.total(2, 0, 0));
          is(1, () -> h.total(2, 0, 1));
          is(99, () -> h.total(2, 0, 2));
        });
    sentence("Promise 46", NO_COLUMN, () -> {
      Tablehouse h = new Tablehouse();
      needsColumn(h, (table, column) -> h.total(table, column, 0));
    });
    sentence("Promise 46", "if what is not 0 to 4", () -> {
      Tablehouse h = column(5);
      needsWithin(h, 0, 4, what -> h.total(1, 0, what));
    });
    sentence("Promise 47", "Returns the k-th ROW (from 0), if they are ordered by their VALUES there, "
        + "those with NULL last in either case, ROWS with the same by rising numbers; NONE, if there is "
        + "none.", () -> {
          Tablehouse h = column(99, -1, 20, 0, 99, 20, -1);
          int[] rising = {3, 2, 5, 0, 4, 1, 6, -1};
          int[] falling = {0, 4, 2, 5, 3, 1, 6, -1};
          for (int k = 0; k < 8; k++) {
            int each = k;
            looks(h, rising[k], () -> h.ranked(1, 0, false, each));
            looks(h, falling[k], () -> h.ranked(1, 0, true, each));
          }
          for (int k : new int[] {-1, 24, Integer.MAX_VALUE, Integer.MIN_VALUE}) {
            looks(h, -1, () -> h.ranked(1, 0, false, k), () -> h.ranked(1, 0, true, k));
          }
          looks(h, -1, () -> h.ranked(0, 0, false, 0), () -> h.ranked(0, 0, true, 0));
          looks(h, 6, () -> h.ranked(1, 1, true, 6), () -> h.ranked(1, 1, false, 6));
        });
    sentence("Promise 47", NO_COLUMN, () -> {
      Tablehouse h = new Tablehouse();
      needsColumn(h, (table, column) -> h.ranked(table, column, true, 0));
    });
  }

  // ---- promises 48 to 50

  private static void cells() {
    sentence("Promise 48", "Returns how many CELLS there are that have ANY just where the set has not "
        + "the place (0 for a, 1 for b, 2 for c).", () -> {
          Tablehouse h = new Tablehouse();
          for (int set = 0; set <= 7; set++) {
            same(0, h.cellsBy(set));
          }
          h.cube(2, 0, 1, 2);
          h.addThree(1, 1, 1);
          h.addThree(2, 1, -1);
          h.addThree(3, 2, -1);
          h.addThree(3, 2, -1);
          int[] due = {1, 3, 2, 3, 2, 3, 3, 3};
          for (int set = 0; set <= 7; set++) {
            int each = set;
            looks(h, due[set], () -> h.cellsBy(each));
          }
          is(20, () -> h.house(9));
        });
    sentence("Promise 48", "if set is not 0 to 7", () -> {
      Tablehouse h = new Tablehouse();
      needsWithin(h, 0, 7, h::cellsBy);
    });
    sentence("Promise 49", "Returns how many ROWS the CELL counts.", () -> {
      Tablehouse h = new Tablehouse();
      looks(h, 0, () -> h.cell(-2, -2, -2));
      h.addSix(0, 99, -1, 0, 0, 0);
      h.addSix(0, 99, 5, 0, 0, 0);
      h.addSix(-1, -1, -1, -1, -1, -1);
      looks(h, 3, () -> h.cell(-2, -2, -2));
      looks(h, 2, () -> h.cell(0, -2, -2), () -> h.cell(-2, 99, -2), () -> h.cell(-2, -2, -1));
      looks(h, 1, () -> h.cell(0, 99, -1), () -> h.cell(-1, -1, -1), () -> h.cell(-1, -2, -2),
          () -> h.cell(0, -2, 5));
      looks(h, 0, () -> h.cell(99, 0, -2), () -> h.cell(0, -1, -2), () -> h.cell(1, -2, -2));
      h.sow(0, 12, 7, 0);
      h.sow(0, 9, 7, 0);
      looks(h, 24, () -> h.cell(-2, -2, -2));
      looks(h, 21, () -> h.cell(7, 14, 21));
    });
    sentence("Promise 49", "if one of these is not -2 to 99", () -> {
      Tablehouse h = new Tablehouse();
      needsWithin(h, -2, 99, a -> h.cell(a, 0, 0));
      needsWithin(h, -2, 99, b -> h.cell(0, b, 0));
      needsWithin(h, -2, 99, c -> h.cell(0, 0, c));
    });
    sentence("Promise 50", "Returns how many ROWS of the TABLE of the CUBE have a in its first COLUMN, "
        + "or b in the second, or c in the third (each counted once).", () -> {
          Tablehouse h = new Tablehouse();
          looks(h, 0, () -> h.anyOf(-1, -1, -1));
          h.addSix(1, 2, 3, 0, 0, 0);
          h.addSix(1, 2, 4, 0, 0, 0);
          h.addSix(1, 5, 3, 0, 0, 0);
          h.addSix(6, 2, 3, 0, 0, 0);
          h.addSix(1, 5, 4, 0, 0, 0);
          h.addSix(-1, -1, -1, 1, 2, 3);
          h.addFour(1, 2, 3, 4);
          looks(h, 5, () -> h.anyOf(1, 2, 3));
          looks(h, 4, () -> h.anyOf(1, 9, 9), () -> h.anyOf(1, 5, 9), () -> h.anyOf(9, 2, 4));
          looks(h, 3, () -> h.anyOf(9, 2, 9), () -> h.anyOf(9, 9, 3), () -> h.anyOf(-1, 5, 9));
          looks(h, 1, () -> h.anyOf(-1, -1, -1), () -> h.anyOf(-1, 9, 9), () -> h.anyOf(9, 9, -1));
          looks(h, 0, () -> h.anyOf(2, 1, 1), () -> h.anyOf(99, 0, 99));
          h.cube(1, 1, 2, 3);
          looks(h, 1, () -> h.anyOf(2, 2, 2), () -> h.anyOf(9, 9, 4));
          looks(h, 0, () -> h.anyOf(1, 2, 3));
        });
    sentence("Promise 50", "if one of these is not -1 to 99", () -> {
      Tablehouse h = new Tablehouse();
      needsWithin(h, -1, 99, a -> h.anyOf(a, 0, 0));
      needsWithin(h, -1, 99, b -> h.anyOf(0, b, 0));
      needsWithin(h, -1, 99, c -> h.anyOf(0, 0, c));
    });
  }

  // ---- promises 51 to 55

  private static void rows() {
    sentence("Promise 51", "Returns what it has there.", () -> {
      Tablehouse h = new Tablehouse();
      for (int table = 0; table <= 2; table++) {
        int t = table;
        int last = WIDTH[table] - 1;
        row(h, t, 0, 99);
        is(0, () -> h.get(t, 0, 0));
        is(99, () -> h.get(t, 0, 1));
        is(-1, () -> h.get(t, 0, last));
        h.put(t, 0, last, 7);
        looks(h, 7, () -> h.get(t, 0, last));
      }
    });
    sentence("Promise 51", "if there is no such TABLE, ROW, or COLUMN", () -> {
      Tablehouse h = new Tablehouse();
      for (int table = 0; table <= 2; table++) {
        h.sow(table, 3, 0, 0);
        h.drop(table, 1);
      }
      needsColumn(h, (table, column) -> h.get(table, 2, column));
      noSuchRow(h, (table, row) -> h.get(table, row, 0));
    });
    sentence("Promise 52", "0 how many ROWS, 1 their set, 2 the number that the next ROW gets (24, if "
        + "there are 24), 3 how many kept ANSWERS it has", () -> {
          for (int table = 0; table <= 2; table++) {
            Tablehouse h = new Tablehouse();
            int t = table;
            int[][] due = {{0, 0, 0, 0}, {24, 16777215, 24, 0}, {23, 16777207, 3, 0},
                {22, 8388599, 3, 2}, {23, 8388607, 23, 0}};
            for (int step = 0; step < due.length; step++) {
              if (step == 1) {
                h.sow(t, 12, 0, 0);
                h.sow(t, 12, 0, 0);
              } else if (step == 2) {
                h.drop(t, 3);
              } else if (step == 3) {
                h.drop(t, 23);
                type(h, "A!").ask(t);
                type(h, "A!").ask((t + 1) % 3);
                type(h, "B!").ask(t);
              } else if (step == 4) {
                row(h, t, 1);
              }
              for (int what = 0; what <= 3; what++) {
                same(due[step][what], h.ofTable(t, what));
              }
            }
            is(1, () -> h.ofTable((t + 1) % 3, 3));
            is(0, () -> h.ofTable((t + 2) % 3, 3));
          }
        });
    sentence("Promise 52", NO_TABLE, () -> {
      Tablehouse h = new Tablehouse();
      needsTable(h, table -> h.ofTable(table, 0));
    });
    sentence("Promise 52", "if what is not 0 to 3", () -> {
      Tablehouse h = new Tablehouse();
      needsWithin(h, 0, 3, what -> h.ofTable(0, what));
    });
    sentence("Promise 53", "0 the set of KINDS of its indexes, 1 1 if it is NEEDED, otherwise 0, 2 the "
        + "least and 3 the greatest of its RANGE, 4 the KIND of its LINK, 5 10 * TABLE + COLUMN of that "
        + "to which this leads (4 and 5 NONE without one), 6 how many VALUES its UNIQUE index has, 7 its "
        + "ORDERED index, 8 how many texts its WORD index (6 to 8: 0 without one)",
        PromiseEdges::whatAColumnIs);
    sentence("Promise 53", NO_COLUMN, () -> {
      Tablehouse h = new Tablehouse();
      needsColumn(h, (table, column) -> h.ofColumn(table, column, 0));
    });
    sentence("Promise 53", "if what is not 0 to 8", () -> {
      Tablehouse h = new Tablehouse();
      needsWithin(h, 0, 8, what -> h.ofColumn(0, 0, what));
    });
    sentence("Promise 54", "0 DEEP, 1 the sum of SIZES that would be undone, if all open transactions "
        + "were taken back, 2 HITS ever, 3 MISSES ever, 4 how many ANSWERS are kept, 5 TAKEN OUT, 6 "
        + "PUSHED OUT ever, 7 REFUSED, 8 how many LENSES, 9 how many CELLS", PromiseEdges::whatAHouseTells);
    sentence("Promise 54", "if what is not 0 to 9", () -> {
      Tablehouse h = new Tablehouse();
      needsWithin(h, 0, 9, h::house);
    });
    sentence("Promise 55", "Returns how many knocked ever, with this.", () -> {
      Tablehouse h = new Tablehouse();
      looks(h, 1, h::knock);
      h.begin();
      is(2, h::knock);
      h.back();
      is(3, h::knock);
      is(1, () -> new Tablehouse().knock());
    });
  }

  private static void has(Tablehouse h, int table, int column, int... due) {
    for (int what = 0; what <= 8; what++) {
      same(due[what], h.ofColumn(table, column, what));
    }
  }

  private static void whatAColumnIs() {
    Tablehouse h = column(47, 0, -1);
    has(h, 1, 0, 0, 0, 0, 99, -1, -1, 0, 0, 0);
    h.index(1, 0, 0);
    has(h, 1, 0, 1, 0, 0, 99, -1, -1, 2, 0, 0);
    h.index(1, 0, 1);
    has(h, 1, 0, 3, 0, 0, 99, -1, -1, 2, 2, 0);
    h.index(1, 0, 2);
    has(h, 1, 0, 7, 0, 0, 99, -1, -1, 2, 2, 7);
    h.drop(1, 2);
    h.need(1, 0, true);
    h.check(1, 0, 0, 47);
    h.link(1, 0, 1, 0, 2);
    has(h, 1, 0, 7, 1, 0, 47, 2, 10, 2, 2, 7);
    h.link(0, 5, 1, 0, 0);
    has(h, 0, 5, 0, 0, 0, 99, 0, 10, 0, 0, 0);
    h.index(0, 0, 0);
    h.link(2, 2, 0, 0, 1);
    has(h, 2, 2, 0, 0, 0, 99, 1, 0, 0, 0, 0);
    h.index(2, 2, 0);
    h.link(1, 3, 2, 2, 1);
    has(h, 1, 3, 0, 0, 0, 99, 1, 22, 0, 0, 0);
    h.unlink(1, 0);
    h.unlink(0, 5);
    h.need(1, 0, false);
    h.check(1, 0, 0, 99);
    for (int kind = 0; kind <= 2; kind++) {
      h.unindex(1, 0, kind);
    }
    has(h, 1, 0, 0, 0, 0, 99, -1, -1, 0, 0, 0);
    has(h, 0, 5, 0, 0, 0, 99, -1, -1, 0, 0, 0);
    // Two ROWS under one VALUE are one VALUE, of which the texts are there once.
    h.put(1, 1, 0, 47);
    h.index(1, 0, 1);
    h.index(1, 0, 2);
    has(h, 1, 0, 6, 0, 0, 99, -1, -1, 0, 1, 5);
  }

  private static void whatAHouseTells() {
    Tablehouse h = column(5, 6);
    h.index(1, 0, 0);
    h.index(1, 0, 1);
    h.lens(1, 0, 0, 9);
    h.cube(1, 0, 1, 2);
    h.begin();
    h.put(1, 0, 1, 7);
    h.begin();
    h.sow(2, 3, 0, 0);
    h.begin();
    h.drop(2, 0);
    for (int number = 0; number <= 5; number++) {
      type(h, "A=" + number).ask(1);
    }
    h.ask(1);
    h.put(1, 1, 0, 5);
    h.put(1, 0, 0, 9);
    type(h, "A=9").ask(1);
    int[] due = {3, 6, 1, 7, 1, 5, 1, 1, 1, 14};
    for (int what = 0; what <= 9; what++) {
      int each = what;
      looks(h, due[what], () -> h.house(each));
    }
    h.back();
    is(4, () -> h.house(1));
    h.commit();
    is(4, () -> h.house(1));
    h.back();
    // Counted for ever: what back() does not bring again.
    int[] then = {0, 0, 1, 7, 0, 5, 1, 1, 1, 12};
    for (int what = 0; what <= 9; what++) {
      same(then[what], h.house(what));
    }
  }

  // ---- promises 56 to 58

  private static final int FROM = 4812;

  private static int stampOf(int... numbers) {
    int s = FROM;
    for (int number : numbers) {
      s = s * 31 + number;
    }
    return s;
  }

  /** The same without any wrap-around on the way, which comes last. */
  private static int wrapped(int... numbers) {
    java.math.BigInteger s = java.math.BigInteger.valueOf(FROM);
    for (int number : numbers) {
      s = s.multiply(java.math.BigInteger.valueOf(31)).add(java.math.BigInteger.valueOf(number));
    }
    return s.intValue();
  }

  private static void sums() {
    sentence("Promise 56", "A number s starts with 4812; then s becomes s * 31 + v, which wraps around "
        + "as a 32-bit integer", () -> {
          // 4812 * 31^4 is 4443983052, of which 4294967296 goes.
          is(149015756, () -> new Tablehouse().stamp());
          Tablehouse h = new Tablehouse();
          h.addThree(99, 98, 97);
          is(wrapped(0, 0, 1, 99, 98, 97, 0), h::stamp);
          h.sow(1, 12, 50, 7);
          h.sow(0, 12, 50, 7);
          java.util.List<Integer> all = new java.util.ArrayList<>();
          for (int table = 0; table <= 2; table++) {
            all.add(h.ofTable(table, 1));
            for (int row = 0; row < h.ofTable(table, 0); row++) {
              for (int column = 0; column < WIDTH[table]; column++) {
                all.add(h.get(table, row, column));
              }
            }
          }
          all.add(h.house(9));
          int due = wrapped(all.stream().mapToInt(v -> v).toArray());
          is(due, h::stamp);
        });
    sentence("Promise 56", "TABLE by TABLE the set of ROWS, then ROW by ROW and COLUMN by COLUMN what it "
        + "has", () -> {
          Tablehouse h = new Tablehouse();
          is(stampOf(0, 0, 0, 0), h::stamp);
          h.addThree(-1, 2, 3);
          is(stampOf(0, 0, 1, -1, 2, 3, 0), h::stamp);
          h.addFour(4, 5, 6, -1);
          h.addFour(7, 8, 9, 10);
          h.drop(1, 0);
          is(stampOf(0, 2, 7, 8, 9, 10, 1, -1, 2, 3, 0), h::stamp);
          h.addSix(1, 2, 3, 4, 5, 6);
          is(stampOf(1, 1, 2, 3, 4, 5, 6, 2, 7, 8, 9, 10, 1, -1, 2, 3, 8), h::stamp);
        });
    sentence("Promise 56", "then COLUMN by COLUMN (if it has a UNIQUE index) VALUE by VALUE of it that "
        + "VALUE and the ROW under it, (if it has an ORDERED one) VALUE by VALUE of it that VALUE and the "
        + "set of ROWS under it, and then the set of ROWS with NULL, (if it has a WORD one) how many "
        + "texts it has, and so on for the next COLUMN", PromiseEdges::stampsOfIndexes);
    sentence("Promise 56", "then, behind all TABLES, how many CELLS there are; ANSWER by ANSWER kept() "
        + "of 0 to 3.", () -> {
          Tablehouse h = new Tablehouse();
          h.cube(2, 0, 1, 2);
          h.addThree(1, 2, 3);
          is(stampOf(0, 0, 1, 1, 2, 3, 8), h::stamp);
          type(h, "C=3").ask(2);
          type(h, "A!|B!").ask(0);
          is(stampOf(0, 0, 1, 1, 2, 3, 8, 2, 1, 4, 3, 0, 0, 3, 5), h::stamp);
          type(h, "C=3").ask(2);
          is(stampOf(0, 0, 1, 1, 2, 3, 8, 0, 0, 3, 5, 2, 1, 4, 3), h::stamp);
        });
    sentence("Promise 56", "Computes a number of what back() brings again.", () -> {
      Tablehouse h = column(5, 6);
      h.index(1, 0, 0);
      h.index(1, 0, 1);
      h.index(1, 0, 2);
      type(h, "A>5").ask(1);
      int stamp = h.stamp();
      h.begin();
      h.drop(1, 0);
      type(h, "A!").ask(1);
      is(true, () -> h.stamp() != stamp);
      h.lens(1, 0, 0, 5);
      h.knock();
      h.scratch(0);
      h.back();
      is(stamp, h::stamp);
    });
    sentence("Promise 57", "Returns whether all of this is so: each index has what the ROWS say, and "
        + "nothing else", PromiseEdges::soundThroughout);
    sentence("Promise 58", "A number d starts with 48121; then d becomes d * 31 + v, which wraps around "
        + "as a 64-bit integer", () -> {
          Tablehouse h = new Tablehouse();
          is(digestOf(h).longValue(), h::digest);
          is(true, () -> digestOf(h).bitLength() > 64);
          Tablehouse g = column(5, 99, -1);
          g.index(1, 0, 0);
          g.index(1, 0, 1);
          g.index(1, 0, 2);
          g.lens(1, 0, 0, 50);
          g.cube(1, 0, 1, 2);
          type(g, "A=5").ask(1);
          is(digestOf(g).longValue(), g::digest);
        });
    sentence("Promise 58", "TABLE by TABLE ofTable() of 0 to 3, then breaks(), then, if that is NONE, "
        + "road() of 0, cost() and plan() of 0", () -> {
          for (String text : new String[] {"", "A", "A!", "A=5|D!", "E=1", "A=5&A=6", "-A=5"}) {
            Tablehouse h = column(5, 6);
            h.index(1, 0, 0);
            type(h, text);
            is(digestOf(h).longValue(), h::digest);
          }
        });
    sentence("Promise 58", "stamp(); house() of 0 to 9;", () -> {
      Tablehouse h = column(5, 6);
      h.index(1, 0, 0);
      h.index(1, 0, 1);
      h.put(1, 0, 0, 6);
      h.lens(1, 0, 5, 4);
      for (int number = 0; number <= 6; number++) {
        type(h, "A=" + number).ask(1);
      }
      h.ask(1);
      h.lens(1, 0, 0, 9);
      h.begin();
      h.begin();
      h.sow(1, 3, 50, 1);
      type(h, "A!").ask(1);
      is(digestOf(h).longValue(), h::digest);
    });
    sentence("Promise 58", "then COLUMN by COLUMN ofColumn() of 0 to 8, groups() and total() of 0 to 4",
        () -> {
          for (int table = 0; table <= 2; table++) {
            Tablehouse h = new Tablehouse();
            h.sow(table, 5, 20, 7);
            h.put(table, 0, 0, 27);
            h.put(table, 4, 0, -1);
            for (int column = WIDTH[table] - 1; column >= 0; column--) {
              h.need(table, column, column > 0);
              h.check(table, column, column, 99 - column);
              h.index(table, column, column == 0 ? 1 : 0);
              h.index(table, column, column == 2 ? 1 : 2);
              h.link(table, column, table, column == 0 ? 1 : column, column % 3);
            }
            is(0, () -> h.house(7));
            is(digestOf(h).longValue(), h::digest);
          }
        });
    sentence("Promise 58", "LENS by LENS ofLens() of 0 to 5; cellsBy() of 0 to 7; the length of LINE",
        () -> {
          for (int lenses = 0; lenses <= 4; lenses++) {
            Tablehouse h = column(5, 6, 5, -1);
            row(h, 1, 30, 2, 7);
            h.cube(1, 0, 1, 2);
            h.index(1, 0, 1);
            for (int lens = 0; lens < lenses; lens++) {
              h.lens(1, 0, 5 + lens % 3, 30 + 21 * lens);
            }
            type(h, "((((((((((((((((((((((((((((((((((((((((".substring(10 * lenses));
            is(digestOf(h).longValue(), h::digest);
          }
        });
  }

  private static void stampsOfIndexes() {
    Tablehouse h = new Tablehouse();
    h.addThree(7, 9, 0);
    h.addThree(3, 9, -1);
    h.addThree(-1, 0, -1);
    int[] head = {0, 0, 7, 7, 9, 0, 3, 9, -1, -1, 0, -1};
    h.index(2, 0, 0);
    is(stampOf(with(head, 3, 1, 7, 0, 0)), h::stamp);
    h.index(2, 1, 1);
    is(stampOf(with(head, 3, 1, 7, 0, 0, 4, 9, 3, 0, 0)), h::stamp);
    h.index(2, 2, 1);
    is(stampOf(with(head, 3, 1, 7, 0, 0, 4, 9, 3, 0, 0, 1, 6, 0)), h::stamp);
    // Of one COLUMN the three KINDS in their order; of 0 the texts are "a" and "aa".
    h.index(2, 2, 2);
    h.index(2, 2, 0);
    is(stampOf(with(head, 3, 1, 7, 0, 0, 4, 9, 3, 0, 0, 0, 0, 1, 6, 2, 0)), h::stamp);
    // One without any VALUE has but its set of ROWS with NULL, and no texts.
    Tablehouse g = new Tablehouse();
    g.index(2, 0, 0);
    is(stampOf(0, 0, 0, 0), g::stamp);
    g.index(2, 0, 1);
    is(stampOf(0, 0, 0, 0, 0), g::stamp);
    g.index(2, 0, 2);
    is(stampOf(0, 0, 0, 0, 0, 0), g::stamp);
    row(g, 2, -1);
    is(stampOf(0, 0, 1, -1, -1, -1, 1, 0, 0), g::stamp);
    g.index(1, 3, 1);
    row(g, 1, 1, 2, 3, 4);
    is(stampOf(0, 1, 1, 2, 3, 4, 4, 1, 0, 1, -1, -1, -1, 1, 0, 0), g::stamp);
  }

  private static int[] with(int[] head, int... more) {
    int[] all = java.util.Arrays.copyOf(head, head.length + more.length);
    System.arraycopy(more, 0, all, head.length, more.length);
    return all;
  }

  /** It is so in every run of calls: behind each kind of change, within and behind transactions. */
  private static void soundThroughout() {
    Tablehouse h = indexed(1);
    is(true, h::isSound);
    for (int table = 0; table <= 2; table++) {
      h.index(table, 0, 0);
      h.index(table, 1, 2);
    }
    h.link(0, 1, 1, 0, 1);
    h.link(2, 1, 1, 0, 2);
    h.sow(1, 12, 5, 3);
    h.addSix(-1, 8, 3, -1, 0, 99);
    h.addSix(1, 38, -1, -1, 0, 99);
    h.addThree(-1, 38, 0);
    h.lens(1, 0, 0, 30);
    type(h, "-(A>9&B!)|C~1").ask(1);
    h.ask(0);
    h.ask(2);
    Call[] calls = {h::begin, () -> h.drop(1, 1), () -> h.shift(1, 1, 60), h::begin,
        () -> h.sweep(0), () -> h.alter(1, 3, -1), () -> h.cut(0), h::back, () -> h.ask(1),
        () -> h.put(1, 11, 0, 99), () -> h.cut(1), h::begin, () -> row(h, 0, -1), h::commit, h::back,
        () -> h.cube(1, 0, 1, 3), () -> h.drop(1, 11), () -> h.unindex(1, 1, 2)};
    for (Call call : calls) {
      same(false, answerOf(call) instanceof Class);
      looks(h, true, h::isSound);
    }
    type(h, "(");
    is(true, h::isSound);
  }

  /** By the words of the promise, without any wrap-around. */
  private static java.math.BigInteger digestOf(Tablehouse h) {
    java.util.List<Integer> all = new java.util.ArrayList<>();
    all.add(h.stamp());
    for (int what = 0; what <= 9; what++) {
      all.add(h.house(what));
    }
    for (int table = 0; table <= 2; table++) {
      for (int what = 0; what <= 3; what++) {
        all.add(h.ofTable(table, what));
      }
      all.add(h.breaks(table));
      if (h.breaks(table) == -1) {
        all.addAll(java.util.List.of(h.road(table, 0), h.cost(table), h.plan(table, 0)));
      }
      for (int column = 0; column < WIDTH[table]; column++) {
        for (int what = 0; what <= 8; what++) {
          all.add(h.ofColumn(table, column, what));
        }
        all.add(h.groups(table, column));
        for (int what = 0; what <= 4; what++) {
          all.add(h.total(table, column, what));
        }
      }
    }
    for (int lens = 0; lens < h.house(8); lens++) {
      for (int what = 0; what <= 5; what++) {
        all.add(h.ofLens(lens, what));
      }
    }
    for (int set = 0; set <= 7; set++) {
      all.add(h.cellsBy(set));
    }
    all.add(h.line().length());
    all.add(h.isSound() ? 1 : 0);
    java.math.BigInteger d = java.math.BigInteger.valueOf(48121);
    for (int v : all) {
      d = d.multiply(java.math.BigInteger.valueOf(31)).add(java.math.BigInteger.valueOf(v));
    }
    return d;
  }
}
