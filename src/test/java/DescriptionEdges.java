import java.util.ArrayList;
import java.util.List;

/** Each sentence of the document's "Description" that names a boundary case, by itself. */
public final class DescriptionEdges extends Edge {
  public static void main(String[] args) {
    wholeNumbers();
    tables();
    words();
    rules();
    changes();
    takingOut();
    refused();
    transactions();
    indexes();
    lenses();
    lines();
    conditions();
    plans();
    answers();
    joins();
    cube();
    exceptions();
    end(args);
  }

  private static int fold(int start, int... numbers) {
    int s = start;
    for (int number : numbers) {
      s = s * 31 + number;
    }
    return s;
  }

  private static int asked(Tablehouse h, int table, String text) {
    return type(h, text).ask(table);
  }

  // ---- what stands ahead of section 1

  private static void wholeNumbers() {
    sentence("Description", "NULL and NONE are -1, ANY is -2.", () -> {
      Tablehouse h = new Tablehouse();
      h.index(1, 1, 0);
      h.cube(1, 0, 1, 2);
      row(h, 1, -1, 5);
      is(-1, () -> h.get(1, 0, 0));
      is(-1, () -> h.whose(1, 1, 6));
      is(-1, () -> h.whose(1, 1, -1));
      is(1, () -> h.cell(-2, 5, -2));
      is(1, () -> h.cell(-1, 5, -1));
      is(0, () -> h.cell(-1, -1, -2));
    });
    sentence("Description", "A set is the sum of 2^k for each number k in it.", () -> {
      Tablehouse h = new Tablehouse();
      is(0, () -> h.ofTable(2, 1));
      h.sow(2, 12, 0, 1);
      h.sow(2, 12, 12, 1);
      is(16777215, () -> h.ofTable(2, 1));
      is(0, () -> fitting(h, 2, "A=50"));
      is(1, () -> fitting(h, 2, "A=0"));
      is(8388608, () -> fitting(h, 2, "A=23"));
      is(8388611, () -> fitting(h, 2, "A<2|A=23"));
    });
    sentence("Description", "X by X is by rising numbers.", () -> {
      Tablehouse h = new Tablehouse();
      h.addThree(5, 6, 7);
      h.addThree(8, 9, 10);
      h.drop(2, 0);
      h.addThree(1, 2, 3);
      int rows = fold(4812, 0, 0, 3, 1, 2, 3, 8, 9, 10);
      is(fold(rows, 0), h::stamp);
      h.index(2, 1, 1);
      is(fold(rows, 2, 1, 9, 2, 0, 0), h::stamp);
      h.index(2, 0, 0);
      is(fold(rows, 1, 0, 8, 1, 2, 1, 9, 2, 0, 0), h::stamp);
    });
    sentence("Description", "What is asked is as of now, and asking changes nothing but what is "
        + "counted, if nothing else is said.", DescriptionEdges::askingChangesNothing);
  }

  private static void askingChangesNothing() {
    Tablehouse h = new Tablehouse();
    for (int kind = 0; kind <= 2; kind++) {
      h.index(1, 0, kind);
    }
    h.lens(1, 0, 0, 9);
    h.sow(1, 3, 4, 1);
    asked(h, 1, "A>4");
    List<Call> calls = List.of(h::line, () -> h.breaks(1), () -> h.road(1, 0), () -> h.road(1, 1),
        () -> h.road(1, 2), () -> h.road(1, 3), () -> h.plan(1, 0), () -> h.cost(1),
        () -> h.isKept(1), () -> h.kept(0, 1), () -> h.edge(1, 0, true), () -> h.near(1, 0, 5, 1),
        () -> h.under(1, 0, 5), () -> h.whose(1, 0, 5), () -> h.spelled(1, 0, 0, -1),
        () -> h.ending(1, 0, 0), () -> h.ofLens(0, 3), () -> h.join(1, 0, 1, 0, 2),
        () -> h.pair(1, 0, 1, 0, 0), () -> h.groups(1, 0), () -> h.group(1, 0, 1, 0, 3),
        () -> h.total(1, 0, 1), () -> h.ranked(1, 0, true, 0), () -> h.cellsBy(7),
        () -> h.cell(-2, -2, -2), () -> h.anyOf(4, 0, 0), () -> h.get(1, 0, 0),
        () -> h.ofTable(1, 0), () -> h.ofColumn(1, 0, 6), () -> h.house(2), h::stamp, h::isSound,
        h::digest);
    List<Object> first = new ArrayList<>();
    for (Call call : calls) {
      long digest = h.digest();
      first.add(answerOf(call));
      same(digest, h.digest());
    }
    for (int each = 0; each < first.size(); each++) {
      same(first.get(each), answerOf(calls.get(each)));
    }
    // As of now: one row less, and what was asked before is no more.
    h.drop(1, 1);
    is(2, () -> h.ofTable(1, 0));
    is(set(2), () -> h.road(1, 3));
    is(0, () -> h.under(1, 0, 5));
    is(2, () -> h.ofLens(0, 2));
    is(2, () -> h.groups(1, 0));
  }

  // ---- section 1

  private static void tables() {
    sentence("1", "There are three TABLES, 0 to 2, with 6, 4 and 3 COLUMNS, numbered from 0", () ->
        needsColumn(new Tablehouse(), new Tablehouse()::groups));
    sentence("1", "in a LINE a COLUMN is a letter, \"A\" for 0, \"B\" for 1 and so on to \"F\".",
        () -> {
          for (int table = 0; table <= 2; table++) {
            Tablehouse h = new Tablehouse();
            row(h, table, 10, 11, 12, 13, 14, 15);
            for (int column = 0; column < 6; column++) {
              for (int value = 10; value <= 15; value++) {
                Object due = value == 10 + column ? 1 : 0;
                same(column < WIDTH[table] ? due : STATE,
                    fitting(h, table, (char) ('A' + column) + "=" + value));
              }
            }
          }
        });
    sentence("1", "A TABLE has at most 24 ROWS (none at first).", () -> {
      Tablehouse h = new Tablehouse();
      for (int table = 0; table <= 2; table++) {
        int full = table;
        same(0, h.ofTable(table, 0));
        for (int many = 0; many < 24; many++) {
          same(many, row(h, table, many));
        }
        refuses(h, STATE, () -> row(h, full, 1), () -> h.sow(full, 1, 1, 1));
        same(24, h.ofTable(table, 0));
        same(1, h.drop(table, 7));
        same(7, row(h, table, 7));
        refuses(h, STATE, () -> row(h, full, 1));
      }
    });
    sentence("1", "A ROW has in each COLUMN a VALUE, 0 to 99, or NULL, which is not called a VALUE.",
        () -> {
          for (int table = 0; table <= 2; table++) {
            Tablehouse h = new Tablehouse();
            int t = table;
            h.sow(t, 1, 0, 0);
            for (int column = 0; column < WIDTH[table]; column++) {
              int c = column;
              is(true, () -> h.put(t, 0, c, 99) >= 0);
              is(99, () -> h.get(t, 0, c));
              is(1, () -> h.put(t, 0, c, -1));
              is(-1, () -> h.get(t, 0, c));
              is(0, () -> h.total(t, c, 1));
              is(1, () -> h.put(t, 0, c, 0));
              is(1, () -> h.total(t, c, 1));
              refuses(h, BAD, () -> h.put(t, 0, c, 100), () -> h.put(t, 0, c, -2));
            }
          }
        });
    sentence("1", "Its number is the least from 0 on that no ROW of the TABLE has when it is put in "
        + "(of several put in together, one after the other)", DescriptionEdges::leastNumbers);
    sentence("1", "it keeps it until it is taken out.", () -> {
      Tablehouse h = column(10, 11, 12);
      h.drop(1, 0);
      is(set(1, 2), () -> h.ofTable(1, 1));
      is(11, () -> h.get(1, 1, 0));
      h.put(1, 2, 0, 5);
      is(5, () -> h.get(1, 2, 0));
      h.drop(1, 1);
      is(set(2), () -> h.ofTable(1, 1));
      h.sow(1, 2, 60, 1);
      is(5, () -> h.get(1, 2, 0));
      h.drop(1, 2);
      refuses(h, OUT, () -> h.get(1, 2, 0));
    });
  }

  private static void leastNumbers() {
    for (int table = 0; table <= 2; table++) {
      Tablehouse h = new Tablehouse();
      int t = table;
      h.sow(t, 6, 10, 1);
      h.drop(t, 0);
      h.drop(t, 4);
      h.drop(t, 2);
      is(0, () -> h.ofTable(t, 2));
      is(0, () -> row(h, t, 77));
      is(2, () -> h.ofTable(t, 2));
      // Into the gaps 2 and 4 first, then behind all others.
      is(3, () -> h.sow(t, 3, 50, 1));
      is(50, () -> h.get(t, 2, 0));
      is(51, () -> h.get(t, 4, 0));
      is(52, () -> h.get(t, 6, 0));
      is(13, () -> h.get(t, 3, 0));
      is(15, () -> h.get(t, 5, 0));
      h.drop(t, 3);
      h.begin();
      is(3, () -> row(h, t, 1));
      is(7, () -> row(h, t, 2));
      h.back();
      is(3, () -> row(h, t, 3));
    }
  }

  private static final String[] SYLLABLES =
      {"a", "b", "ab", "ba", "aa", "bb", "aba", "bab", "abb", "baa"};

  /** The longest text of a word index over one row: its word. */
  private static String wordOf(int value) {
    Tablehouse h = column(value);
    h.index(1, 0, 2);
    String longest = "";
    for (int k = 0; k < h.ofColumn(1, 0, 8); k++) {
      String text = h.ending(1, 0, k);
      longest = text.length() > longest.length() ? text : longest;
    }
    return longest;
  }

  private static void words() {
    sentence("1", "SYLLABLES of the digits 0 to 9: \"a\", \"b\", \"ab\", \"ba\", \"aa\", \"bb\", "
        + "\"aba\", \"bab\", \"abb\", \"baa\".", () -> {
          for (int digit = 0; digit <= 9; digit++) {
            same(SYLLABLES[digit] + SYLLABLES[digit], wordOf(11 * digit));
          }
        });
    sentence("1", "WORD of a VALUE: the SYLLABLE of its tens (VALUE / 10, without rest), then that "
        + "of its ones.", () -> {
          same("aa", wordOf(0));
          same("ab", wordOf(1));
          same("abab", wordOf(7));
          same("abaa", wordOf(9));
          same("ba", wordOf(10));
          same("baba", wordOf(70));
          same("baaa", wordOf(90));
          same("baaabb", wordOf(98));
        });
    sentence("1", "An ENDING of a WORD: what is left of it, if letters are taken away in front, none "
        + "or more, but not all.", () -> {
          Tablehouse h = column(0);
          h.index(1, 0, 2);
          is(2, () -> h.ofColumn(1, 0, 8));
          is("a", () -> h.ending(1, 0, 0));
          is("aa", () -> h.ending(1, 0, 1));
          is("", () -> h.ending(1, 0, 2));
          // Not what is left when letters are taken away behind.
          h.put(1, 0, 0, 1);
          is(2, () -> h.ofColumn(1, 0, 8));
          is("ab", () -> h.ending(1, 0, 0));
          is("b", () -> h.ending(1, 0, 1));
        });
    sentence("1", "(VALUE 47: WORD \"aabab\", its ENDINGS \"aabab\", \"abab\", \"bab\", \"ab\", "
        + "\"b\".)", () -> {
          Tablehouse h = column(47);
          h.index(1, 0, 2);
          String[] due = {"aabab", "ab", "abab", "b", "bab", ""};
          for (int k = 0; k < due.length; k++) {
            same(due[k], h.ending(1, 0, k));
          }
        });
  }

  // ---- section 2

  private static void rules() {
    sentence("2", "A COLUMN may be NEEDED: then no ROW has NULL there.", () -> {
      Tablehouse h = column(3, 4);
      is(1, () -> h.need(1, 0, true));
      tells(h, -2, () -> h.put(1, 1, 0, -1), () -> row(h, 1, -1, 1, 1, 1));
      is(2, () -> row(h, 1, 0));
      tells(type(h, "A=4"), -2, () -> h.alter(1, 0, -1));
      is(0, () -> row(h, 2, -1));
      is(1, () -> h.put(1, 1, 1, 5));
      is(1, () -> h.put(1, 1, 1, -1));
    });
    sentence("2", "It has a RANGE (0 to 99 at first): the VALUES there are in it.", () -> {
      Tablehouse h = column(0, 99, 40, -1);
      is(0, () -> h.ofColumn(1, 0, 2));
      is(99, () -> h.ofColumn(1, 0, 3));
      tells(h, -3, () -> h.check(1, 0, 1, 99), () -> h.check(1, 0, 0, 98));
      h.put(1, 0, 0, 20);
      h.put(1, 1, 0, 30);
      h.put(1, 2, 0, 25);
      is(1, () -> h.check(1, 0, 20, 30));
      tells(h, -3, () -> h.put(1, 0, 0, 19), () -> h.put(1, 0, 0, 31), () -> row(h, 1, 99));
      is(1, () -> h.put(1, 2, 0, 20));
      is(1, () -> h.put(1, 2, 0, 30));
      // NULL is no VALUE, so that no RANGE keeps it out.
      is(1, () -> h.put(1, 2, 0, -1));
      is(4, () -> row(h, 1, -1, 99));
      is(0, () -> row(h, 2, 99));
    });
    sentence("2", "It may have a UNIQUE index: then no two ROWS have the same VALUE there (NULL may "
        + "be there often).", () -> {
          Tablehouse h = column(3, -1, -1, 4);
          is(1, () -> h.index(1, 0, 0));
          is(4, () -> row(h, 1, -1, 3));
          is(5, () -> row(h, 1, 5, 3));
          is(1, () -> h.put(1, 3, 0, -1));
          tells(h, -4, () -> h.put(1, 3, 0, 3), () -> row(h, 1, 3));
          is(0, () -> h.put(1, 0, 0, 3));
          is(0, () -> row(h, 0, 3));
          is(1, () -> h.put(1, 3, 0, 0));
          tells(h, -4, () -> h.put(1, 1, 0, 0));
        });
    sentence("2", "It may have a LINK, which leads to a COLUMN (of whichever TABLE, the own too) "
        + "that has a UNIQUE index: then each VALUE here is that of some ROW there.", () -> {
          Tablehouse h = column(3, 4);
          h.index(1, 0, 0);
          is(1, () -> h.link(0, 5, 1, 0, 0));
          is(1, () -> h.link(2, 2, 1, 0, 0));
          is(1, () -> h.link(1, 3, 1, 0, 0));
          is(1, () -> h.link(1, 0, 1, 0, 0));
          tells(h, -5, () -> h.addSix(1, 1, 1, 1, 1, 5), () -> h.addThree(3, 3, 0),
              () -> h.put(1, 0, 3, 5));
          is(0, () -> h.addSix(5, 5, 5, 5, 5, 4));
          is(0, () -> h.addThree(5, 5, 3));
          is(1, () -> h.put(1, 0, 3, 4));
          is(1, () -> h.put(1, 1, 3, 4));
          // NULL is no VALUE, so that it need not be there.
          is(1, () -> h.put(0, 0, 5, -1));
          is(1, () -> row(h, 2, 9, 9));
          tells(h, -5, () -> h.put(2, 0, 2, 0), () -> h.put(1, 0, 0, 7));
          // What leads to itself always finds itself.
          is(2, () -> row(h, 1, 50));
        });
    sentence("2", "== 2. Rules", DescriptionEdges::rulesOfEachColumn);
    sentence("2", "The KIND of a LINK: 0 HOLDS, 1 FALLS, 2 LETS GO.", () -> {
      for (int kind = 0; kind <= 2; kind++) {
        Tablehouse h = column(3);
        h.index(1, 0, 0);
        h.addThree(3, 1, 1);
        h.link(2, 0, 1, 0, kind);
        same(kind, h.ofColumn(2, 0, 4));
        int[] due = {-5, 2, 1};
        same(due[kind], h.drop(1, 0));
        same(kind == 1 ? 0 : 1, h.ofTable(2, 0));
        same(kind == 2 ? -1 : kind == 0 ? 3 : OUT, answerOf(() -> h.get(2, 0, 0)));
      }
    });
    sentence("2", "At first there is nothing of this but the RANGES.", () -> {
      Tablehouse h = new Tablehouse();
      int[] due = {0, 0, 0, 99, -1, -1, 0, 0, 0};
      for (int table = 0; table <= 2; table++) {
        for (int column = 0; column < WIDTH[table]; column++) {
          for (int what = 0; what <= 8; what++) {
            same(due[what], h.ofColumn(table, column, what));
          }
        }
        // Twins, NULL, the least and the greatest, all without a rule against them.
        same(0, row(h, table, 0, 99));
        same(1, row(h, table, 0, 99));
      }
    });
  }

  /** Three rows in a table whose column, with 40 to 42, has all rules of its own. */
  private static Tablehouse ruled(int table, int column) {
    Tablehouse h = new Tablehouse();
    h.sow(table, 3, (140 - 7 * column) % 100, 1);
    h.need(table, column, true);
    h.check(table, column, 40, 50);
    h.index(table, column, 0);
    return h;
  }

  private static void rulesOfEachColumn() {
    for (int table = 0; table <= 2; table++) {
      for (int column = 0; column < WIDTH[table]; column++) {
        int t = table;
        int c = column;
        int to = (table + 1) % 3;
        Tablehouse h = ruled(t, c);
        tells(h, -2, () -> h.put(t, 0, c, -1));
        tells(h, -3, () -> h.put(t, 0, c, 39), () -> h.put(t, 2, c, 51));
        tells(h, -4, () -> h.put(t, 0, c, 41), () -> h.put(t, 2, c, 41));
        h.index(to, 1, 0);
        row(h, to, 1, 40, 1, 1, 1, 1);
        row(h, to, 2, 41, 2, 2, 2, 2);
        row(h, to, 3, 42, 3, 3, 3, 3);
        h.link(t, c, to, 1, 0);
        tells(h, -5, () -> h.put(t, 2, c, 43), () -> h.put(to, 2, 1, 43), () -> h.drop(to, 0));
        is(1, () -> h.drop(t, 0));
        is(1, () -> h.drop(to, 0));
        is(true, h::isSound);
      }
    }
  }

  // ---- section 3

  private static void changes() {
    sentence("3", "A CHANGE puts ROWS in, takes ROWS out, or gives ROWS something else than they have, "
        + "all at once.", () -> {
          // What a row is given first would make another one fit, or no more.
          Tablehouse h = column(5, 6, 7);
          type(h, "A=5|A=6|A=7");
          is(3, () -> h.shift(1, 0, 1));
          is(set(0, 1), () -> fitting(h, 1, "A=6|A=7"));
          is(8, () -> h.get(1, 2, 0));
          type(h, "A>6|A<9&B!");
          is(2, () -> h.alter(1, 0, 8));
          h.begin();
          is(3, () -> h.cut(1));
          is(12, () -> h.sow(1, 12, 0, 0));
          is(15, () -> h.house(1));
        });
    sentence("3", "It is made, if all RULES hold for all that there is behind it (what was in between "
        + "does not count).", DescriptionEdges::whatWasInBetween);
    sentence("3", "Otherwise nothing is changed and a FAULT is told", () -> {
      Tablehouse h = new Tablehouse();
      h.index(1, 0, 0);
      h.index(1, 0, 1);
      h.check(1, 0, 0, 60);
      h.sow(1, 5, 10, 10);
      h.lens(1, 0, 20, 100);
      h.link(2, 0, 1, 0, 0);
      h.addThree(50, 0, 0);
      asked(h, 1, "A<99");
      // Most of the rows could go along; one cannot, so none does.
      tells(h, -3, () -> h.shift(1, 0, 15), () -> h.sow(1, 4, 58, 1));
      tells(h, -4, () -> h.alter(1, 0, 5), () -> h.sow(1, 4, 7, 1));
      tells(h, -5, () -> h.cut(1), () -> h.sweep(0), () -> h.drop(1, 4), () -> h.put(1, 4, 0, 9),
          () -> h.shift(1, 0, 1), () -> h.sow(2, 2, 50, 1));
      is(1, () -> h.house(4));
      is(5, () -> h.ofTable(1, 2));
    });
    sentence("3", "-2, if some ROW had NULL in a NEEDED COLUMN; otherwise -3, if some VALUE was not "
        + "in its RANGE; otherwise -4, if two ROWS had the same VALUE under a UNIQUE index; otherwise "
        + "-5 (some LINK did not find its VALUE).", DescriptionEdges::whichFault);
    sentence("3", "SIZE of a CHANGE: how many ROWS it puts in, takes out or leaves with something "
        + "else than they had.", DescriptionEdges::sizes);
    sentence("3", "(One of SIZE 0 is made, too; it takes no ANSWER out.)", () -> {
      Tablehouse h = column(5, 6, -1);
      h.index(1, 0, 1);
      h.lens(1, 0, 50, 60);
      asked(h, 1, "A=5");
      asked(h, 1, "B!");
      h.begin();
      looks(h, 0, () -> h.put(1, 0, 0, 5), () -> h.put(1, 2, 0, -1), () -> h.alter(1, 1, -1),
          () -> h.shift(1, 0, 0), () -> h.shift(1, 1, 9), () -> h.sweep(0));
      type(h, "A=5");
      looks(h, 0, () -> h.alter(1, 0, 5), () -> h.shift(1, 0, 0));
      type(h, "A=7");
      looks(h, 0, () -> h.cut(1), () -> h.alter(1, 0, 9), () -> h.shift(1, 0, 9));
      is(2, () -> h.house(4));
      is(0, () -> h.house(1));
      is(0, () -> h.house(5));
      is(0, () -> h.house(7));
    });
  }

  private static void whatWasInBetween() {
    // One row after the other would meet the next one's value.
    Tablehouse h = column(98, 99, 0);
    h.index(1, 0, 0);
    type(h, "-A!");
    is(3, () -> h.shift(1, 0, 1));
    is(3, () -> h.shift(1, 0, 99));
    is(2, () -> h.whose(1, 0, 0));
    is(0, () -> h.whose(1, 0, 98));
    // Each row leads to the next one, which is not there yet.
    Tablehouse g = column(40);
    g.index(1, 0, 0);
    g.link(1, 1, 1, 0, 0);
    is(3, () -> g.sow(1, 3, 19, 7));
    is(26, () -> g.get(1, 1, 1));
    // A row leads to itself.
    is(4, () -> row(g, 1, 55, 55));
    // What holds the row goes with it, and the ring as a whole.
    Tablehouse f = column(1, 2);
    f.index(1, 0, 0);
    f.put(1, 0, 1, 2);
    f.put(1, 1, 1, 1);
    f.link(1, 1, 1, 0, 0);
    tells(f, -5, () -> f.drop(1, 0), () -> f.drop(1, 1));
    type(f, "-A!");
    is(2, () -> f.cut(1));
    is(0, () -> f.ofTable(1, 0));
  }

  /** Column by column a fault each, in both orders, over one row and over several tables. */
  private static void whichFault() {
    Tablehouse h = column(1);
    h.index(1, 0, 0);
    for (boolean isTurned : new boolean[] {false, true}) {
      Tablehouse g = new Tablehouse();
      int need = isTurned ? 3 : 0;
      int range = isTurned ? 2 : 1;
      int unique = isTurned ? 1 : 2;
      int link = isTurned ? 0 : 3;
      int[] values = new int[4];
      values[need] = 5;
      values[range] = 15;
      values[unique] = 5;
      values[link] = -1;
      row(g, 1, values);
      g.addThree(5, 5, 5);
      g.index(2, 0, 0);
      g.need(1, need, true);
      g.check(1, range, 10, 20);
      g.index(1, unique, 0);
      g.link(1, link, 2, 0, 0);
      values[need] = -1;
      values[range] = 21;
      values[unique] = 5;
      values[link] = 6;
      tells(g, -2, () -> row(g, 1, values));
      values[need] = 0;
      tells(g, -3, () -> row(g, 1, values));
      values[range] = 9;
      tells(g, -3, () -> row(g, 1, values));
      values[range] = 10;
      tells(g, -4, () -> row(g, 1, values));
      values[unique] = 6;
      tells(g, -5, () -> row(g, 1, values));
      values[link] = 5;
      is(1, () -> row(g, 1, values));
    }
    // Letting go in table 0 meets NEEDED, holding in table 2 its LINK: -2 goes ahead.
    h.link(0, 0, 1, 0, 2);
    h.link(2, 2, 1, 0, 0);
    row(h, 0, 1);
    row(h, 2, 1, 1, 1);
    h.need(0, 0, true);
    tells(h, -2, () -> h.drop(1, 0));
    h.need(0, 0, false);
    tells(h, -5, () -> h.drop(1, 0));
    // Of several rows of one CHANGE the fault that is named first, whichever row has it.
    Tablehouse f = column(50, 60);
    f.index(1, 0, 0);
    f.check(1, 1, 0, 30);
    tells(f, -3, () -> f.sow(1, 4, 20, 10));
    tells(f, -4, () -> f.sow(1, 3, 10, 0));
    is(1, () -> f.sow(1, 1, 23, 0));
  }

  private static void sizes() {
    Tablehouse h = new Tablehouse();
    h.begin();
    is(4, () -> h.sow(1, 4, 0, 1));
    is(4, () -> h.house(1));
    h.addThree(0, 0, 0);
    is(5, () -> h.house(1));
    is(1, () -> h.put(1, 0, 3, 9));
    is(6, () -> h.house(1));
    type(h, "A<3");
    is(2, () -> h.alter(1, 3, 9));
    is(8, () -> h.house(1));
    is(3, () -> h.shift(1, 3, 1));
    is(11, () -> h.house(1));
    is(3, () -> h.cut(1));
    is(14, () -> h.house(1));
    is(14, h::commit);
    // Two columns of one row are let go: one row that goes, one that is left with something else.
    Tablehouse g = column(5);
    g.index(1, 0, 0);
    g.addThree(5, 5, 5);
    g.addThree(5, 6, 7);
    g.addThree(6, 5, 7);
    g.link(2, 0, 1, 0, 2);
    is(-1, () -> g.ofColumn(2, 0, 4));
    g.put(2, 2, 0, -1);
    is(1, () -> g.link(2, 0, 1, 0, 2));
    g.put(2, 1, 1, -1);
    is(1, () -> g.link(2, 1, 1, 0, 2));
    g.begin();
    is(1, () -> g.drop(1, 0));
    is(4, g::back);
  }

  private static void takingOut() {
    sentence("3", "they go, and with each ROW that goes all those go that have in a COLUMN with a LINK "
        + "that FALLS the VALUE which that ROW has in the COLUMN to which it leads",
        DescriptionEdges::whatFalls);
    sentence("3", "these take others with them in the same way.", () -> {
      Tablehouse h = new Tablehouse();
      for (int table = 0; table <= 2; table++) {
        h.index(table, 0, 0);
      }
      h.link(1, 1, 0, 0, 1);
      h.link(2, 1, 1, 0, 1);
      h.link(0, 1, 2, 0, 1);
      row(h, 0, 1, -1);
      row(h, 1, 11, 1);
      row(h, 2, 21, 11);
      row(h, 0, 2, 21);
      row(h, 1, 12, 2);
      row(h, 0, 3, -1);
      is(5, () -> h.drop(0, 0));
      is(set(2), () -> h.ofTable(0, 1));
      is(0, () -> h.ofTable(1, 1));
      is(0, () -> h.ofTable(2, 1));
      // Row k of table 0 leads to table 1, that one to table 2, and that one to row k - 1.
      Tablehouse g = new Tablehouse();
      for (int table = 0; table <= 2; table++) {
        g.index(table, 0, 0);
      }
      for (int k = 0; k < 24; k++) {
        row(g, 0, k, k == 0 ? -1 : k);
        row(g, 2, k, k == 0 ? -1 : k - 1);
        row(g, 1, k, k);
      }
      g.link(2, 1, 0, 0, 1);
      g.link(1, 1, 2, 0, 1);
      g.link(0, 1, 1, 0, 1);
      g.begin();
      is(12 + 12 + 11, () -> g.drop(1, 12));
      is(35, g::back);
      is(24 + 23 + 23, () -> g.drop(0, 0));
      is(set(0), () -> g.ofTable(1, 1));
      is(set(0), () -> g.ofTable(2, 1));
    });
    sentence("3", "Of all ROWS that stay, each gets NULL wherever it has, in a COLUMN with a LINK that "
        + "LETS GO, the VALUE which a ROW that goes has in the COLUMN to which that leads.",
        DescriptionEdges::whatIsLetGo);
    sentence("3", "All of this is one CHANGE (so that a LINK that HOLDS may make it fail with -5, and "
        + "a NEEDED COLUMN with -2).", () -> {
          Tablehouse h = column(5, 6);
          h.index(1, 0, 0);
          h.index(2, 0, 0);
          h.link(2, 1, 1, 0, 1);
          h.link(0, 0, 2, 0, 0);
          h.addThree(30, 5, 0);
          h.addSix(30, 0, 0, 0, 0, 0);
          // What would fall first is held by another.
          tells(h, -5, () -> h.drop(1, 0), () -> h.drop(2, 0));
          h.drop(0, 0);
          h.link(0, 1, 2, 0, 2);
          h.addSix(-1, 30, 0, 0, 0, 0);
          h.need(0, 1, true);
          tells(h, -2, () -> h.drop(1, 0), () -> h.drop(2, 0));
          h.need(0, 1, false);
          h.begin();
          is(2, () -> h.drop(1, 0));
          is(3, () -> h.house(1));
          is(-1, () -> h.get(0, 0, 1));
        });
  }

  private static void whatFalls() {
    Tablehouse h = column(5, 6, -1);
    h.index(1, 0, 0);
    h.link(2, 0, 1, 0, 1);
    h.link(2, 1, 1, 0, 1);
    h.link(1, 1, 1, 0, 1);
    h.addThree(5, -1, 6);
    h.addThree(6, 5, 6);
    h.addThree(6, 6, 5);
    h.addThree(-1, -1, 5);
    row(h, 1, 7, 5);
    // NULL is none, so that the row with NULL takes none with it.
    is(1, () -> h.drop(1, 2));
    is(set(0, 1, 2, 3), () -> h.ofTable(2, 1));
    is(4, () -> h.drop(1, 0));
    is(set(2, 3), () -> h.ofTable(2, 1));
    is(set(1), () -> h.ofTable(1, 1));
    // Nothing takes along that to which it leads.
    is(1, () -> h.drop(2, 2));
    is(set(1), () -> h.ofTable(1, 1));
    // Giving a row another value is no taking out.
    h.addThree(6, -1, -1);
    tells(h, -5, () -> h.put(1, 1, 0, 9));
  }

  private static void whatIsLetGo() {
    Tablehouse h = column(5, 6);
    h.index(1, 0, 0);
    h.index(2, 0, 0);
    h.link(2, 1, 1, 0, 1);
    h.link(0, 0, 1, 0, 2);
    h.link(0, 5, 1, 0, 2);
    h.link(1, 2, 1, 0, 2);
    h.link(1, 3, 2, 0, 2);
    h.addThree(40, 5, 5);
    h.addSix(5, 5, 5, 5, 5, 5);
    h.addSix(6, 5, 5, 5, 5, 5);
    h.addSix(5, 6, 6, 6, 6, 6);
    h.put(1, 1, 2, 5);
    h.put(1, 1, 3, 40);
    is(2, () -> h.drop(1, 0));
    int[][] due = {{-1, 5, 5, 5, 5, -1}, {6, 5, 5, 5, 5, -1}, {-1, 6, 6, 6, 6, 6}};
    for (int row = 0; row < 3; row++) {
      for (int column = 0; column < 6; column++) {
        same(due[row][column], h.get(0, row, column));
      }
    }
    // Of a row that fell, too.
    is(-1, () -> h.get(1, 1, 2));
    is(-1, () -> h.get(1, 1, 3));
    is(6, () -> h.get(1, 1, 0));
    is(true, h::isSound);
    // Giving a row another value lets nothing go.
    h.put(0, 0, 0, 6);
    tells(h, -5, () -> h.put(1, 1, 0, 9), () -> h.put(1, 1, 0, -1));
  }

  private static void refused() {
    sentence("3", "What is not let for another reason is told with -9.", () -> {
      Tablehouse h = new Tablehouse();
      h.index(1, 0, 1);
      asked(h, 1, "A!");
      tells(h, -9, () -> h.scratch(0), () -> h.edge(1, 0, true), () -> h.near(1, 0, -1, 0),
          () -> h.under(1, 0, -1), () -> h.lens(1, 0, 2, 1));
      h.lens(1, 0, 10, 20);
      tells(h, -9, () -> h.narrow(0, 9, 20), () -> h.narrow(0, 10, 21), () -> h.narrow(0, 15, 14));
    });
    sentence("3", "REFUSED: how often a FAULT or this -9 was told, ever (by whichever method, those "
        + "that ask, too).", DescriptionEdges::countsEachRefusal);
  }

  private static void counts(Tablehouse h, int due, Call call) {
    int before = h.house(7);
    is(due, call);
    same(before + (due < -1 ? 1 : 0), h.house(7));
  }

  private static void countsEachRefusal() {
    Tablehouse h = column(5, 5, -1);
    is(0, () -> h.house(7));
    counts(h, -4, () -> h.index(1, 0, 0));
    counts(h, -2, () -> h.need(1, 0, true));
    counts(h, -3, () -> h.check(1, 0, 6, 99));
    h.index(2, 0, 0);
    counts(h, -5, () -> h.link(1, 0, 2, 0, 0));
    for (int table = 0; table <= 2; table++) {
      int each = table;
      h.check(table, 2, 0, 50);
      counts(h, -3, () -> row(h, each, 0, 0, 51));
      counts(h, -3, () -> h.sow(each, 2, 40, 0));
    }
    counts(h, -3, () -> h.put(1, 0, 2, 51));
    h.index(1, 0, 1);
    h.lens(1, 0, 0, 100);
    h.put(1, 1, 0, 6);
    h.index(1, 0, 0);
    h.addThree(6, 5, 0);
    h.link(2, 1, 1, 0, 0);
    counts(h, -5, () -> h.drop(1, 0));
    type(h, "A=5");
    counts(h, -5, () -> h.cut(1));
    counts(h, -4, () -> h.alter(1, 0, 6));
    counts(h, -4, () -> h.shift(1, 0, 1));
    counts(h, -5, () -> h.sweep(0));
    h.ask(1);
    counts(h, -9, () -> h.scratch(0));
    counts(h, -9, () -> h.narrow(0, 2, 1));
    counts(h, -9, () -> h.lens(1, 0, 2, 1));
    counts(h, -9, () -> h.near(1, 0, -1, 3));
    counts(h, -9, () -> h.under(1, 0, -1));
    h.index(0, 0, 1);
    counts(h, -9, () -> h.edge(0, 0, false));
    // NONE and what throws are none of them.
    counts(h, -1, () -> h.whose(1, 0, -1));
    counts(h, -1, () -> h.near(1, 0, 99, 3));
    counts(h, -1, () -> h.plan(1, 9));
    counts(h, -1, () -> h.get(1, 2, 0));
    refuses(h, OUT, () -> h.scratch(1));
    is(22, () -> h.house(7));
    // Ever: taking a transaction back leaves it.
    h.begin();
    counts(h, -4, () -> h.put(1, 0, 0, 6));
    h.back();
    is(23, () -> h.house(7));
  }

  // ---- section 4

  private static void transactions() {
    sentence("4", "DEEP (0 to 3): how many transactions are open, one in another.", () -> {
      Tablehouse h = new Tablehouse();
      is(0, () -> h.house(0));
      for (int deep = 1; deep <= 3; deep++) {
        same(deep, h.begin());
        same(deep, h.house(0));
      }
      refuses(h, STATE, h::begin);
      h.back();
      is(2, () -> h.house(0));
      is(3, h::begin);
      h.commit();
      h.commit();
      h.commit();
      is(0, () -> h.house(0));
      refuses(h, STATE, h::commit, h::back);
    });
    sentence("4", "begin() opens one in those that are open; commit() and back() end the innermost.",
        () -> {
          Tablehouse h = column(1);
          h.begin();
          h.put(1, 0, 0, 2);
          h.begin();
          h.put(1, 0, 0, 3);
          h.begin();
          h.put(1, 0, 0, 4);
          is(1, h::back);
          is(3, () -> h.get(1, 0, 0));
          is(1, h::commit);
          is(1, () -> h.house(0));
          is(3, () -> h.get(1, 0, 0));
          is(2, h::back);
          is(1, () -> h.get(1, 0, 0));
        });
    sentence("4", "The CHANGES since its begin() are, after commit(), among those of the one around it "
        + "(if it was the only one, for good)", () -> {
          Tablehouse h = column(1);
          h.begin();
          h.begin();
          h.begin();
          h.put(1, 0, 0, 2);
          row(h, 1, 7);
          is(2, h::commit);
          h.put(1, 1, 0, 8);
          is(3, h::commit);
          is(3, () -> h.house(1));
          is(3, h::back);
          is(1, () -> h.ofTable(1, 0));
          is(1, () -> h.get(1, 0, 0));
          h.begin();
          h.put(1, 0, 0, 2);
          is(1, h::commit);
          is(0, () -> h.house(1));
          h.begin();
          is(0, h::back);
          is(2, () -> h.get(1, 0, 0));
        });
    sentence("4", "with back() they are undone, the last one first", () -> {
      Tablehouse h = column(1, 2, 3);
      for (int kind = 0; kind <= 2; kind++) {
        h.index(1, 0, kind);
      }
      h.cube(1, 0, 1, 2);
      int stamp = h.stamp();
      h.begin();
      // The same row over and over; its number and its value are taken over by others.
      h.put(1, 0, 0, 9);
      h.put(1, 0, 0, 8);
      h.put(1, 1, 0, 1);
      h.drop(1, 0);
      row(h, 1, 2);
      h.drop(1, 2);
      h.sow(1, 3, 60, 1);
      type(h, "-A!");
      h.shift(1, 0, 50);
      is(true, () -> h.stamp() != stamp);
      h.cut(1);
      is(1 + 1 + 1 + 1 + 1 + 1 + 3 + 5 + 5, h::back);
      is(stamp, h::stamp);
      is(true, h::isSound);
      is(1, () -> h.get(1, 0, 0));
      is(0, () -> h.whose(1, 0, 1));
      is(8, () -> h.anyOf(1, 0, 0) + h.cellsBy(7) + h.cell(-2, -1, -2) + h.cell(3, -1, -1));
    });
    sentence("4", "and the kept ANSWERS are those of its begin() again, in that order.",
        DescriptionEdges::answersAgain);
    sentence("4", "(LINE, LENSES and what is counted stay as they are.)", DescriptionEdges::whatStays);
    sentence("4", "While one is open, RULES, indexes and the CUBE cannot be told anew.",
        DescriptionEdges::rulesStandStill);
  }

  private static void answersAgain() {
    Tablehouse h = column(1, 2, 3, 4, 5);
    String[] texts = {"A=1", "A=02", "A=3", "B=4", "A!"};
    for (String text : texts) {
      asked(h, 1, text);
    }
    int stamp = h.stamp();
    h.begin();
    // Asked again, pushed out, taken out, asked once more with another set.
    asked(h, 1, "A=02");
    asked(h, 1, "C!");
    is(false, () -> type(h, "A=1").isKept(1));
    h.put(1, 2, 0, 9);
    asked(h, 1, "A=3");
    is(0, () -> h.kept(h.house(4) - 1, 1));
    h.back();
    is(5, () -> h.house(4));
    is(stamp, h::stamp);
    int[] sets = {set(0), set(1), set(2), 0, 0};
    for (int answer = 0; answer < 5; answer++) {
      same(sets[answer], h.kept(answer, 1));
      same(texts[answer].length(), h.kept(answer, 3));
    }
    is(set(2), () -> asked(h, 1, "A=3"));
    is(3, () -> h.kept(4, 3));
    // None at its begin(): none again.
    Tablehouse g = column(1);
    g.begin();
    asked(g, 1, "A=1");
    g.begin();
    asked(g, 1, "A=2");
    g.back();
    is(1, () -> g.house(4));
    g.back();
    is(0, () -> g.house(4));
    // What was asked stays with commit().
    g.begin();
    asked(g, 1, "A=1");
    g.commit();
    is(1, () -> g.house(4));
  }

  private static void whatStays() {
    Tablehouse h = column(1, 2);
    h.index(1, 0, 0);
    h.index(1, 0, 1);
    h.lens(1, 0, 0, 9);
    h.knock();
    h.begin();
    for (int number = 0; number <= 5; number++) {
      asked(h, 1, "A=" + number);
    }
    h.ask(1);
    h.put(1, 0, 1, 9);
    h.put(1, 0, 0, 7);
    tells(h, -4, () -> h.put(1, 0, 0, 2));
    h.narrow(0, 1, 8);
    h.lens(1, 0, 50, 60);
    h.knock();
    type(h, "B<9");
    h.back();
    is("B<9", h::line);
    is(2, () -> h.house(8));
    is(1, () -> h.ofLens(0, 0));
    is(8, () -> h.ofLens(0, 1));
    is(2, () -> h.ofLens(0, 2));
    is(50, () -> h.ofLens(1, 0));
    int[] due = {0, 0, 1, 6, 0, 5, 1, 1};
    for (int what = 0; what < due.length; what++) {
      same(due[what], h.house(what));
    }
    is(3, h::knock);
    h.begin();
    is(2, h::shut);
    h.back();
    is(0, () -> h.house(8));
  }

  private static void rulesStandStill() {
    Tablehouse h = column(1, -1, 1);
    h.index(2, 0, 0);
    h.link(2, 1, 2, 0, 0);
    for (int deep = 1; deep <= 3; deep++) {
      h.begin();
      // Those that would be let, those that would tell a fault, those that would change nothing.
      refuses(h, STATE, () -> h.index(0, 0, 0), () -> h.index(1, 0, 0), () -> h.index(2, 0, 0),
          () -> h.unindex(2, 0, 0), () -> h.unindex(0, 0, 1), () -> h.need(0, 0, true),
          () -> h.need(1, 0, true), () -> h.need(0, 0, false), () -> h.check(0, 0, 1, 9),
          () -> h.check(1, 0, 2, 9), () -> h.link(0, 0, 2, 0, 0), () -> h.link(1, 0, 2, 0, 0),
          () -> h.unlink(2, 1), () -> h.unlink(0, 0), () -> h.cube(0, 1, 2, 3));
      is(1, () -> h.ofColumn(2, 0, 0));
    }
    h.back();
    h.commit();
    refuses(h, STATE, () -> h.index(0, 0, 0));
    h.commit();
    is(1, () -> h.index(0, 0, 0));
    is(true, () -> h.unindex(0, 0, 0));
    is(1, () -> h.need(0, 0, true));
    is(1, () -> h.check(0, 0, 1, 9));
    is(1, () -> h.link(0, 0, 2, 0, 0));
    is(true, () -> h.unlink(0, 0));
    is(0, () -> h.cube(0, 1, 2, 3));
  }

  // ---- section 5

  private static void indexes() {
    sentence("5", "KINDS of an index: 0 UNIQUE, 1 ORDERED, 2 WORD. A COLUMN has at most one of each.",
        () -> {
          Tablehouse h = column(3, 4);
          for (int kind = 0; kind <= 2; kind++) {
            int each = kind;
            is(1, () -> h.index(1, 0, each));
            looks(h, 0, () -> h.index(1, 0, each));
          }
          is(7, () -> h.ofColumn(1, 0, 0));
          tells(h, -4, () -> h.put(1, 0, 0, 4));
          is(set(0), () -> h.under(1, 0, 3));
          is(set(1), () -> h.spelled(1, 0, 4, -1));
          for (int kind = 0; kind <= 2; kind++) {
            int each = kind;
            is(true, () -> h.unindex(1, 0, each));
            is(false, () -> h.unindex(1, 0, each));
          }
        });
    sentence("5", "Under a VALUE stand the numbers of the ROWS that have it; in an ORDERED one a VALUE "
        + "is there only as long as a ROW stands under it, and ROWS with NULL stand apart", () -> {
          Tablehouse h = column(7, 7, -1, 50);
          h.index(1, 0, 1);
          is(2, () -> h.ofColumn(1, 0, 7));
          is(set(0, 1), () -> h.under(1, 0, 7));
          h.put(1, 0, 0, -1);
          is(2, () -> h.ofColumn(1, 0, 7));
          is(set(1), () -> h.under(1, 0, 7));
          is(7, () -> h.edge(1, 0, false));
          h.drop(1, 1);
          is(1, () -> h.ofColumn(1, 0, 7));
          is(50, () -> h.edge(1, 0, false));
          is(50, () -> h.near(1, 0, 0, 2));
          is(-1, () -> h.near(1, 0, 49, 0));
          h.put(1, 3, 0, 49);
          is(49, () -> h.edge(1, 0, true));
          is(1, () -> h.ofColumn(1, 0, 7));
          h.drop(1, 3);
          is(0, () -> h.ofColumn(1, 0, 7));
          tells(h, -9, () -> h.edge(1, 0, false));
          is(set(0, 2), () -> fitting(h, 1, "A!"));
          is(true, h::isSound);
        });
    sentence("5", "in a WORD one the ROWS stand under all ENDINGS of their WORDS, and those with NULL "
        + "nowhere.", () -> {
          // "aabab" and "aa".
          Tablehouse h = column(47, -1, 0);
          h.index(1, 0, 2);
          String[] due = {"a", "aa", "aabab", "ab", "abab", "b", "bab"};
          for (int k = 0; k < due.length; k++) {
            same(due[k], h.ending(1, 0, k));
          }
          is(7, () -> h.ofColumn(1, 0, 8));
          is(set(0, 2), () -> h.spelled(1, 0, 0, -1));
          // "ab" comes and goes: what is left of "aabab" keeps all that it has.
          h.put(1, 2, 0, 1);
          h.drop(1, 2);
          is(5, () -> h.ofColumn(1, 0, 8));
          is("aabab", () -> h.ending(1, 0, 0));
          is(set(0), () -> h.spelled(1, 0, 4, 7));
          row(h, 1, 0);
          is(set(0, 2), () -> h.spelled(1, 0, 0, -1));
          h.put(1, 0, 0, -1);
          is(2, () -> h.ofColumn(1, 0, 8));
          is(set(2), () -> h.spelled(1, 0, 0, -1));
          h.drop(1, 2);
          is(0, () -> h.ofColumn(1, 0, 8));
          is("", () -> h.ending(1, 0, 0));
          is(0, () -> h.spelled(1, 0, 0, -1));
        });
    sentence("5", "What is asked of an ORDERED index with NULL is told with -9.", () -> {
      Tablehouse h = column(-1, 5);
      h.index(1, 0, 0);
      h.index(1, 0, 1);
      tells(h, -9, () -> h.under(1, 0, -1));
      for (int way = 0; way <= 3; way++) {
        int each = way;
        tells(h, -9, () -> h.near(1, 0, -1, each));
      }
      // Of the ORDERED one alone.
      looks(h, -1, () -> h.whose(1, 0, -1));
    });
  }

  private static void lenses() {
    sentence("5", "LENSES, numbered from 0, at most 4: each looks at an ORDERED index, from LOW on and "
        + "below HIGH.", () -> {
          Tablehouse h = column(9, 10, 19, 20, 0, 99);
          h.index(1, 0, 1);
          int[][] spans = {{10, 20}, {0, 100}, {0, 1}, {99, 100}};
          int[] shown = {set(1, 2), 63, set(4), set(5)};
          for (int lens = 0; lens < 4; lens++) {
            same(lens, h.lens(1, 0, spans[lens][0], spans[lens][1]));
          }
          for (int lens = 0; lens < 4; lens++) {
            same(shown[lens], h.ofLens(lens, 3));
          }
          refuses(h, STATE, () -> h.lens(1, 0, 0, 1));
          refuses(h, OUT, () -> h.ofLens(4, 0));
          is(4, h::shut);
          is(0, () -> h.lens(1, 0, 0, 1));
          refuses(h, STATE, () -> h.lens(1, 1, 0, 1));
        });
    sentence("5", "What it shows changes as the index does.", () -> {
      Tablehouse h = column(10, 19);
      h.index(1, 0, 1);
      h.lens(1, 0, 10, 20);
      is(2, () -> h.ofLens(0, 2));
      h.put(1, 0, 0, 20);
      is(1, () -> h.ofLens(0, 2));
      is(19, () -> h.ofLens(0, 4));
      row(h, 1, 15);
      is(15, () -> h.ofLens(0, 4));
      is(set(1, 2), () -> h.ofLens(0, 3));
      h.put(1, 1, 0, -1);
      is(15, () -> h.ofLens(0, 5));
      h.drop(1, 2);
      is(0, () -> h.ofLens(0, 2));
      is(-1, () -> h.ofLens(0, 4));
    });
    sentence("5", "It can be made narrower alone.", () -> {
      Tablehouse h = column(9, 10, 20);
      h.index(1, 0, 1);
      h.lens(1, 0, 10, 20);
      tells(h, -9, () -> h.narrow(0, 9, 20), () -> h.narrow(0, 10, 21), () -> h.narrow(0, 0, 100));
      is(1, () -> h.narrow(0, 10, 20));
      is(1, () -> h.narrow(0, 10, 19));
      tells(h, -9, () -> h.narrow(0, 10, 20));
      is(0, () -> h.narrow(0, 11, 19));
      tells(h, -9, () -> h.narrow(0, 10, 19));
    });
  }

  // ---- section 6

  private static void breaks(Tablehouse h, int table, String text, int due) {
    type(h, text);
    same(text + " " + due, text + " " + answerOf(() -> h.breaks(table)));
  }

  private static void lines() {
    sentence("6", "LINE is one text of at most 40 SIGNS, empty at first.", () -> {
      Tablehouse h = new Tablehouse();
      is("", h::line);
      for (int length = 6; length <= 36; length += 6) {
        same(length, h.say(1, 2, 3, 4, 5, 6));
      }
      // At every moment, so that emptying it behind is too late, and ahead is not.
      refuses(h, STATE, () -> h.say(1, 2, 3, 4, 5, -1), () -> h.say(1, 2, 3, 4, 5, 26));
      is(40, () -> h.say(1, 2, 3, 4, -1, -1));
      is("1234561234561234561234561234561234561234", h::line);
      refuses(h, STATE, () -> h.say(5, -1, -1, -1, -1, -1), () -> h.say(-1, -1, -1, -1, 5, 26));
      is(40, () -> h.say(-1, -1, -1, -1, -1, -1));
      is(4, () -> h.say(-1, 26, 1, 2, 3, 4));
      is("1234", h::line);
    });
    sentence("6", "SIGNS are typed by codes: 0 to 9 are digits, 10 to 15 \"A\" to \"F\", 16 \"=\", "
        + "17 \"<\", 18 \">\", 19 \"~\", 20 \"!\", 21 \"&\", 22 \"|\", 23 \"-\", 24 \"(\", 25 \")\"",
        () -> {
          String[] due = {"0", "1", "2", "3", "4", "5", "6", "7", "8", "9", "A", "B", "C", "D", "E",
              "F", "=", "<", ">", "~", "!", "&", "|", "-", "(", ")"};
          Tablehouse h = new Tablehouse();
          for (int code = 0; code < 26; code++) {
            same(1, h.say(26, code, -1, -1, -1, -1));
            same(due[code], h.line());
          }
        });
    sentence("6", "26 is no SIGN, but empties LINE.", () -> {
      Tablehouse h = new Tablehouse();
      is(0, () -> h.say(26, -1, -1, -1, -1, -1));
      is(0, () -> h.say(1, 2, 3, 4, 5, 26));
      is(1, () -> h.say(1, 26, 2, 26, -1, 3));
      is("3", h::line);
      is(0, () -> h.say(26, 26, 26, 26, 26, 26));
      is("", h::line);
    });
    sentence("6", "LINE is RIGHT for a TABLE, if it is a SENTENCE in which nowhere more than 2 "
        + "brackets are open.", () -> {
          Tablehouse h = new Tablehouse();
          breaks(h, 0, "((A!))", -1);
          breaks(h, 0, "(((A!)))", 2);
          breaks(h, 0, "((", 2);
          breaks(h, 0, "(((", 2);
          breaks(h, 0, "-(-(-(A!)))", 5);
          // One after the other there may be many.
          breaks(h, 0, "((A!)&(B!))|((C!)&(D!))|(E!)", -1);
          breaks(h, 0, "((A!)&((B!)))", 7);
          breaks(h, 0, "(A!)&(B!)&(C!)&((D!))", -1);
          type(h, "(((A!)))");
          refuses(h, STATE, () -> h.ask(0), () -> h.road(0, 0), () -> h.cut(0));
        });
    sentence("6", "SENTENCE: one TERM or more with \"|\" between them. TERM: one FACT or more with "
        + "\"&\" between them.", () -> {
          Tablehouse h = new Tablehouse();
          for (String sign : new String[] {"|", "&"}) {
            breaks(h, 0, sign, 0);
            breaks(h, 0, sign + "A!", 0);
            breaks(h, 0, "A!" + sign, 3);
            breaks(h, 0, "A!" + sign + sign + "A!", 3);
            breaks(h, 0, "A!" + sign + "A!", -1);
            breaks(h, 0, "A!" + (sign + "A!").repeat(12), -1);
            breaks(h, 0, "(" + sign + "A!)", 1);
            breaks(h, 0, "(A!" + sign + ")", 4);
            breaks(h, 0, "A!|A!&A!" + sign + "A!", -1);
          }
          breaks(h, 0, "A!A!", 2);
          breaks(h, 0, "A!&|A!", 3);
          breaks(h, 0, "()", 1);
        });
    sentence("6", "FACT: any number of \"-\" (none, too), then either a CONDITION or \"(\", a "
        + "SENTENCE, \")\".", () -> {
          Tablehouse h = new Tablehouse();
          breaks(h, 0, "A!", -1);
          breaks(h, 0, "-A!", -1);
          breaks(h, 0, "-".repeat(38) + "A!", -1);
          breaks(h, 0, "-".repeat(36) + "(A!)", -1);
          breaks(h, 0, "--(--(--A!))", -1);
          breaks(h, 0, "A-!", 1);
          breaks(h, 0, "A!-", 2);
          breaks(h, 0, "-", 1);
          breaks(h, 0, "-&A!", 1);
          breaks(h, 0, "(A!", 3);
          breaks(h, 0, "A!)", 2);
          breaks(h, 0, "(A!)A!", 4);
          breaks(h, 0, "(A!)(A!)", 4);
          breaks(h, 0, "(A!)-A!", 4);
          row(h, 0, 1);
          is(0, () -> fitting(h, 0, "-".repeat(38) + "A!"));
          is(1, () -> fitting(h, 0, "-".repeat(37) + "A!"));
        });
    sentence("6", "CONDITION: a letter of a COLUMN that the TABLE has, then one of these: \"!\"; "
        + "\"=\", \"<\" or \">\" with a NUMBER or another letter (or the same) of such a COLUMN; "
        + "\"~\" with a PATTERN.", DescriptionEdges::whatIsACondition);
    sentence("6", "NUMBER and PATTERN: one or two digits (\"07\" is the NUMBER 7, but as a PATTERN "
        + "the digits 0 and 7).", () -> {
          Tablehouse h = column(7, 70, 0, 77);
          for (String sign : new String[] {"=", "<", ">", "~"}) {
            breaks(h, 1, "A" + sign, 2);
            breaks(h, 1, "A" + sign + "7", -1);
            breaks(h, 1, "A" + sign + "77", -1);
            breaks(h, 1, "A" + sign + "777", 4);
            breaks(h, 1, "A" + sign + "007", 4);
            breaks(h, 1, "A" + sign + "-7", 2);
          }
          is(set(0), () -> fitting(h, 1, "A=7"));
          is(set(0), () -> fitting(h, 1, "A=07"));
          is(set(2), () -> fitting(h, 1, "A<07"));
          is(set(1, 3), () -> fitting(h, 1, "A>07"));
          is(set(2), () -> fitting(h, 1, "A=00"));
          // "abab", "baba", "aa", "babbab"
          is(set(0, 1, 3), () -> fitting(h, 1, "A~7"));
          is(set(0), () -> fitting(h, 1, "A~07"));
          is(set(1), () -> fitting(h, 1, "A~70"));
        });
    sentence("6", "BREAK of LINE: how many SIGNS the longest text has with which LINE begins, and with "
        + "which some RIGHT text (of any length) begins, too.", () -> {
          Tablehouse h = new Tablehouse();
          breaks(h, 0, "", 0);
          breaks(h, 0, "7", 0);
          breaks(h, 0, "A7!", 1);
          breaks(h, 0, "A=B7", 3);
          breaks(h, 0, "A=7B", 3);
          breaks(h, 0, "A!&B=1|C<=1", 9);
          // Of any length: no LINE has room for what is missing here.
          breaks(h, 0, "-".repeat(40), 40);
          breaks(h, 0, "(" + "A!&".repeat(13), 40);
          breaks(h, 0, "-".repeat(39) + "A", 40);
          breaks(h, 0, "-".repeat(39) + ")", 39);
        });
    sentence("6", "(That is the length of LINE, if merely something is missing behind it.)", () -> {
      Tablehouse h = new Tablehouse();
      String whole = "-(A=12|(B~71&D!)|--C>F)";
      for (int length = 0; length < whole.length(); length++) {
        breaks(h, 0, whole.substring(0, length), length);
      }
      breaks(h, 0, whole, -1);
    });
  }

  private static void whatIsACondition() {
    Tablehouse h = new Tablehouse();
    for (int table = 0; table <= 2; table++) {
      for (int column = 0; column < 6; column++) {
        char letter = (char) ('A' + column);
        boolean isThere = column < WIDTH[table];
        breaks(h, table, letter + "!", isThere ? -1 : 0);
        breaks(h, table, "A<" + letter, isThere ? -1 : 2);
      }
    }
    for (String sign : new String[] {"=", "<", ">"}) {
      breaks(h, 2, "A" + sign + "A", -1);
      breaks(h, 2, "A" + sign + "B", -1);
      breaks(h, 2, "A" + sign + "BB", 3);
      breaks(h, 2, "A" + sign + "!", 2);
      breaks(h, 2, "A" + sign + sign, 2);
    }
    breaks(h, 2, "A", 1);
    breaks(h, 2, "AB", 1);
    breaks(h, 2, "A&", 1);
    breaks(h, 2, "A(", 1);
    breaks(h, 2, "A!!", 2);
    breaks(h, 2, "A!7", 2);
    breaks(h, 2, "A~", 2);
    for (String letter : new String[] {"A", "C", "F"}) {
      breaks(h, 0, "A~" + letter, 2);
      breaks(h, 0, "A~7" + letter, 3);
      breaks(h, 0, "A=7" + letter, 3);
      breaks(h, 0, "A=B" + letter, 3);
    }
    breaks(h, 2, "7=A", 0);
  }

  private static void conditions() {
    sentence("6", "\"A!\" a ROW with NULL there", () -> {
      Tablehouse h = column(0, -1, 99);
      is(set(1), () -> fitting(h, 1, "A!"));
      is(set(0, 1, 2), () -> fitting(h, 1, "B!"));
      is(0, () -> fitting(h, 0, "A!"));
      h.index(1, 0, 1);
      is(set(1), () -> fitting(h, 1, "A!"));
    });
    sentence("6", "\"A=7\", \"A<7\", \"A>7\" one with a VALUE there that is equal to, less than, or "
        + "greater than the NUMBER", () -> {
          for (int kinds = 0; kinds < 4; kinds++) {
            Tablehouse h = column(6, 7, 8, -1, 0, 99);
            for (int kind = 0; kind <= 1; kind++) {
              if ((kinds >> kind & 1) == 1) {
                h.index(1, 0, kind);
              }
            }
            is(set(1), () -> fitting(h, 1, "A=7"));
            is(set(0, 4), () -> fitting(h, 1, "A<7"));
            is(set(2, 5), () -> fitting(h, 1, "A>7"));
            is(0, () -> fitting(h, 1, "A<0"));
            is(set(0, 1, 2, 5), () -> fitting(h, 1, "A>0"));
            is(set(4), () -> fitting(h, 1, "A=0"));
            is(0, () -> fitting(h, 1, "A>99"));
            is(set(0, 1, 2, 4), () -> fitting(h, 1, "A<99"));
            is(set(5), () -> fitting(h, 1, "A=99"));
            is(0, () -> fitting(h, 1, "A=98"));
          }
        });
    sentence("6", "with a second letter: one that has VALUES at both, the first of which is so to the "
        + "second", () -> {
          Tablehouse h = new Tablehouse();
          int[][] rows = {{5, 5}, {4, 5}, {5, 4}, {-1, 5}, {5, -1}, {-1, -1}, {0, 99}};
          for (int[] values : rows) {
            row(h, 1, values);
          }
          is(set(0), () -> fitting(h, 1, "A=B"));
          is(set(1, 6), () -> fitting(h, 1, "A<B"));
          is(set(2), () -> fitting(h, 1, "A>B"));
          is(set(2), () -> fitting(h, 1, "B<A"));
          is(set(0, 1, 2, 4, 6), () -> fitting(h, 1, "A=A"));
          is(0, () -> fitting(h, 1, "A<A|A>A"));
          is(0, () -> fitting(h, 1, "C=D"));
        });
    sentence("6", "\"A~7\", \"A~47\" one with a VALUE whose WORD contains, somewhere, the SYLLABLE of "
        + "the digit, or of both, one behind the other.", () -> {
          // "aabab", "babaa", "abaa", "aab", none
          for (int kind = 1; kind <= 2; kind++) {
            Tablehouse h = column(47, 74, 9, 41, -1);
            h.index(1, 0, kind);
            is(set(0, 1), () -> fitting(h, 1, "A~7"));
            is(set(0), () -> fitting(h, 1, "A~47"));
            is(set(1), () -> fitting(h, 1, "A~74"));
            is(set(0, 1, 2, 3), () -> fitting(h, 1, "A~4"));
            is(set(0, 1, 2, 3), () -> fitting(h, 1, "A~0"));
            is(set(1, 2), () -> fitting(h, 1, "A~9"));
            // "ab" and then "a": across the border of what the digits spell.
            is(set(0, 1, 2), () -> fitting(h, 1, "A~20"));
            is(0, () -> fitting(h, 1, "A~5"));
            is(0, () -> fitting(h, 1, "A~99"));
            // "bbbb", "aa", "ab"
            Tablehouse g = column(55, 0, 1);
            g.index(1, 0, kind);
            is(set(1, 2), () -> fitting(g, 1, "A~0"));
            is(set(1), () -> fitting(g, 1, "A~4"));
            is(set(1), () -> fitting(g, 1, "A~00"));
            is(set(0, 2), () -> fitting(g, 1, "A~1"));
            is(set(0), () -> fitting(g, 1, "A~55"));
          }
        });
    sentence("6", "With \"-\" in front a FACT fits just those that it does not fit without (so "
        + "\"-A=7\" fits a ROW with NULL).", () -> {
          Tablehouse h = new Tablehouse();
          int[][] rows = {{7, 7}, {6, 7}, {-1, 7}, {7, -1}};
          for (int[] values : rows) {
            row(h, 1, values);
          }
          h.index(1, 0, 1);
          is(set(1, 2), () -> fitting(h, 1, "-A=7"));
          is(set(0, 1, 2, 3), () -> fitting(h, 1, "-A<6"));
          is(set(0, 1, 3), () -> fitting(h, 1, "-A!"));
          is(set(1, 2, 3), () -> fitting(h, 1, "-A=B"));
          is(set(1, 2), () -> fitting(h, 1, "-A~7"));
          is(set(0, 3), () -> fitting(h, 1, "--A=7"));
          is(set(1, 2), () -> fitting(h, 1, "---A=7"));
          is(set(1, 2, 3), () -> fitting(h, 1, "-(A=7&B=7)"));
          is(0, () -> fitting(h, 0, "-A=7"));
        });
    sentence("6", "A TERM fits those that all its FACTS fit, a SENTENCE (so LINE) those that at least "
        + "one of its TERMS fits.", () -> {
          Tablehouse h = new Tablehouse();
          for (int row = 0; row < 8; row++) {
            h.addThree(row & 1, row >> 1 & 1, row >> 2);
          }
          is(set(7), () -> fitting(h, 2, "A=1&B=1&C=1"));
          is(set(1, 2, 3, 4, 5, 6, 7), () -> fitting(h, 2, "A=1|B=1|C=1"));
          is(0, () -> fitting(h, 2, "A=1&A=0"));
          is(255, () -> fitting(h, 2, "A=1|A=0"));
        });
    sentence("6", "(In words: \"-\" binds most, then \"&\", then \"|\".)", () -> {
      Tablehouse h = new Tablehouse();
      for (int row = 0; row < 8; row++) {
        h.addThree(row & 1, row >> 1 & 1, row >> 2);
      }
      is(set(3, 4, 5, 6, 7), () -> fitting(h, 2, "A=1&B=1|C=1"));
      is(set(3, 4, 5, 6, 7), () -> fitting(h, 2, "C=1|A=1&B=1"));
      is(set(3, 5, 7), () -> fitting(h, 2, "A=1&(B=1|C=1)"));
      is(set(2, 6), () -> fitting(h, 2, "-A=1&B=1"));
      is(set(0, 2, 3, 4, 6, 7), () -> fitting(h, 2, "-A=1|B=1"));
      is(set(0, 1, 2, 4, 5, 6), () -> fitting(h, 2, "-(A=1&B=1)"));
    });
  }

  private static void plan(Tablehouse h, String text, int plan, int cost) {
    type(h, text);
    same(text + " " + plan + " " + cost, text + " " + h.plan(1, 0) + " " + h.cost(1));
  }

  /** Column A unique, B ordered, C with words, D with none; four rows. */
  private static Tablehouse planned() {
    Tablehouse h = new Tablehouse();
    h.addFour(1, 1, 10, 1);
    h.addFour(2, 1, 10, 1);
    h.addFour(3, 2, 0, 1);
    h.addFour(-1, -1, -1, -1);
    h.index(1, 0, 0);
    h.index(1, 1, 1);
    h.index(1, 2, 2);
    return h;
  }

  private static void plans() {
    sentence("6", "SERVED: of the TERMS of LINE (not of those in brackets) a FACT that is a CONDITION, "
        + "with no \"-\" in front and no second letter, whose COLUMN has an index for it: \"!\" an "
        + "ORDERED one; \"=\" an ORDERED or a UNIQUE one; \"<\", \">\" an ORDERED one; \"~\" a WORD "
        + "one.", () -> {
          Tablehouse h = planned();
          plan(h, "A!", -1, 4);
          plan(h, "B!", 0, 1);
          plan(h, "C!", -1, 4);
          plan(h, "A=1", 0, 1);
          plan(h, "B=1", 0, 2);
          plan(h, "C=10", -1, 4);
          plan(h, "D=1", -1, 4);
          plan(h, "A<2", -1, 4);
          plan(h, "B<2", 0, 2);
          plan(h, "C<2", -1, 4);
          plan(h, "A>2", -1, 4);
          plan(h, "B>1", 0, 1);
          plan(h, "C>2", -1, 4);
          plan(h, "A~1", -1, 4);
          plan(h, "B~1", -1, 4);
          plan(h, "C~1", 0, 2);
          plan(h, "B=D", -1, 4);
          plan(h, "B=B", -1, 4);
          plan(h, "-B=1", -1, 4);
          plan(h, "-B!", -1, 4);
          // With both kinds "=" is served, too; without any no more.
          h.index(1, 0, 1);
          plan(h, "A=1", 0, 1);
          plan(h, "A>2", 0, 1);
          h.unindex(1, 0, 0);
          plan(h, "A=1", 0, 1);
          h.unindex(1, 0, 1);
          plan(h, "A=1", -1, 4);
        });
    sentence("6", "(\"(A=1)\" and \"--A=1\" are not SERVED.)", () -> {
      Tablehouse h = planned();
      plan(h, "(A=1)", -1, 4);
      plan(h, "--A=1", -1, 4);
      plan(h, "-(A=1)", -1, 4);
      plan(h, "((A=1))", -1, 4);
      plan(h, "(A=1)&--A=1&A=1", 2, 1);
    });
    sentence("6", "Its READS: how many ROWS it fits. CHOSEN of a TERM: its SERVED FACT with the fewest "
        + "READS, of several the first.", () -> {
          Tablehouse h = planned();
          plan(h, "B=1&A=1", 1, 1);
          plan(h, "A=1&B=1", 0, 1);
          plan(h, "B=2&A=1", 0, 1);
          plan(h, "A=1&B=2", 0, 1);
          plan(h, "D=1&C~1&B<9&B=1", 1, 2);
          plan(h, "B>0&B!&A=1&A=9&B=50", 3, 0);
          plan(h, "B=50&A=9", 0, 0);
          plan(h, "D=1&D=2", -1, 4);
        });
    sentence("6", "COST: if each TERM has one, and the sum of their READS is less than the number of "
        + "ROWS of the TABLE, that sum; otherwise that number.", () -> {
          Tablehouse h = planned();
          // One TERM has none, whatever the others cost.
          plan(h, "A=1|D=1", 0, 4);
          plan(h, "A=9|D=1", 0, 4);
          plan(h, "D=1|A=9", -1, 4);
          plan(h, "A=1|A=2", 0, 2);
          plan(h, "B=1|A=1", 0, 3);
          // Just the number of ROWS, and more: the same ROWS count for each TERM.
          plan(h, "B=1|C~1", 0, 4);
          plan(h, "B=1|B=1", 0, 4);
          plan(h, "B=1|B=1|B=1", 0, 4);
          plan(h, "A=9|B=9", 0, 0);
          is(set(0, 1), () -> fitting(h, 1, "B=1|C~1"));
          h.drop(1, 3);
          plan(h, "B>0", 0, 3);
          plan(h, "A=1|B=2", 0, 2);
          plan(h, "B=1|B=2", 0, 3);
          plan(h, "D=1", -1, 3);
          Tablehouse none = new Tablehouse();
          plan(none, "A=1", -1, 0);
          none.index(1, 0, 0);
          plan(none, "A=1", 0, 0);
        });
    sentence("6", "ROADS to the set of ROWS that fit: 0 ROW by ROW; 1 CONDITION by CONDITION through "
        + "the indexes that serve; 2 CONDITION by CONDITION as sets of bits; 3 by what is CHOSEN, if "
        + "that is COST.", () -> {
          Tablehouse h = planned();
          is(set(0), () -> fitting(h, 1, "A=1&B=1"));
          is(0, () -> fitting(h, 1, "A=1&B=2"));
          is(set(0, 2), () -> fitting(h, 1, "A=1|B=2"));
          is(set(0, 1), () -> fitting(h, 1, "B=1|B=1&A=1"));
          is(set(0, 1, 3), () -> fitting(h, 1, "C~1|B!"));
          is(set(1, 2, 3), () -> fitting(h, 1, "-A=1"));
          is(set(2), () -> fitting(h, 1, "B>1&D=1"));
          is(0, () -> fitting(h, 1, "B!&-(D!)"));
        });
  }

  // ---- section 7

  private static void answers() {
    sentence("7", "An ANSWER is kept for a TABLE and a text of LINE, sign for sign: the set of ROWS that "
        + "fit.", () -> {
          Tablehouse h = column(7);
          asked(h, 1, "A=7");
          is(set(0), () -> h.kept(0, 1));
          is(true, () -> h.isKept(1));
          is(false, () -> h.isKept(0));
          for (String text : new String[] {"A=07", "(A=7)", "--A=7", "A=7|A=7", "A=", "A=8", ""}) {
            is(false, () -> type(h, text).isKept(1));
          }
          asked(h, 1, "A=07");
          is(2, () -> h.house(4));
          is(2, () -> h.house(3));
          asked(h, 2, "A=7");
          is(3, () -> h.house(4));
          is(0, () -> h.house(2));
        });
    sentence("7", "ask() finds it, if it is kept (a HIT); otherwise it is found and kept (a MISS).", () -> {
      Tablehouse h = column(7);
      type(h, "A=7");
      is(set(0), () -> h.ask(1));
      is(0, () -> h.house(2));
      is(1, () -> h.house(3));
      is(set(0), () -> h.ask(1));
      is(1, () -> h.house(2));
      is(1, () -> h.house(3));
      type(h, "A=");
      refuses(h, STATE, () -> h.ask(1));
      is(1, () -> h.house(2));
      is(1, () -> h.house(3));
      is(1, () -> h.house(4));
    });
    sentence("7", "(Of the methods that need the ROWS that fit LINE, ask() alone looks at kept "
        + "ANSWERS.)", () -> {
          Tablehouse h = column(7, 8);
          asked(h, 1, "A=7");
          asked(h, 1, "B!");
          type(h, "A=7");
          for (int road = 0; road <= 3; road++) {
            int each = road;
            looks(h, set(0), () -> h.road(1, each));
          }
          looks(h, 2, () -> h.cost(1));
          looks(h, -1, () -> h.plan(1, 0));
          looks(h, true, () -> h.isKept(1));
          looks(h, 0, () -> h.alter(1, 0, 7), () -> h.shift(1, 1, 1));
          is(0, () -> h.house(2));
          is(set(1), () -> h.kept(1, 2));
          // Nor do these keep one.
          type(h, "A=9");
          looks(h, 0, () -> h.cut(1), () -> h.road(1, 3), () -> h.alter(1, 0, 1));
          is(2, () -> h.house(4));
          is(2, () -> h.house(3));
        });
    sentence("7", "The one asked last is the youngest; if there would be 6, the eldest goes (PUSHED "
        + "OUT).", () -> {
          Tablehouse h = new Tablehouse();
          for (int number = 1; number <= 5; number++) {
            asked(h, number % 3, "A=" + number);
          }
          is(5, () -> h.house(4));
          is(0, () -> h.house(6));
          // A HIT makes the eldest the youngest, and pushes none out.
          asked(h, 1, "A=1");
          is(0, () -> h.house(6));
          asked(h, 0, "A=60");
          is(5, () -> h.house(4));
          is(1, () -> h.house(6));
          is(false, () -> type(h, "A=2").isKept(2));
          is(true, () -> type(h, "A=1").isKept(1));
          is(true, () -> type(h, "A=3").isKept(0));
          asked(h, 0, "A=61");
          is(false, () -> type(h, "A=3").isKept(0));
          is(2, () -> h.house(6));
          is(0, () -> h.house(5));
        });
    sentence("7", "A CHANGE that is made takes out (TAKEN OUT is how many, ever) each kept ANSWER of a "
        + "TABLE of which it puts in or takes out a ROW, and each that has in its text the letter of a "
        + "COLUMN of its TABLE in which a ROW that stays gets something else than it had.",
        DescriptionEdges::whatIsTakenOut);
    sentence("7", "Telling RULES and indexes takes none out.", () -> {
      Tablehouse h = column(1, 2);
      asked(h, 1, "A=1|B!");
      asked(h, 2, "A!");
      for (int kind = 0; kind <= 2; kind++) {
        h.index(1, 0, kind);
      }
      h.need(1, 0, true);
      h.check(1, 0, 1, 2);
      h.link(1, 1, 1, 0, 1);
      h.link(2, 0, 1, 0, 2);
      h.cube(1, 0, 1, 2);
      h.unlink(1, 1);
      h.unlink(2, 0);
      h.need(1, 0, false);
      for (int kind = 0; kind <= 2; kind++) {
        h.unindex(1, 0, kind);
      }
      is(2, () -> h.house(4));
      is(0, () -> h.house(5));
      is(true, h::isSound);
    });
    sentence("7", "ANSWERS are numbered from 0, the eldest first.", () -> {
      Tablehouse h = new Tablehouse();
      refuses(h, OUT, () -> h.kept(0, 3));
      String[] texts = {"A!", "A=1", "A=10", "A!|B!", "A=1|B!"};
      for (String text : texts) {
        asked(h, 0, text);
      }
      for (int answer = 0; answer < 5; answer++) {
        same(answer + 2, h.kept(answer, 3));
      }
      refuses(h, OUT, () -> h.kept(5, 3), () -> h.kept(-1, 3));
      asked(h, 0, "A=10");
      int[] due = {2, 3, 5, 6, 4};
      for (int answer = 0; answer < 5; answer++) {
        same(due[answer], h.kept(answer, 3));
      }
    });
  }

  private interface Change {
    int make(Tablehouse h);
  }

  /** What stays of two answers a table: bits 0 and 1 for table 0, 4 and 5 for table 1. */
  private static void staying(int due, Change change, String... texts) {
    Tablehouse h = column(1, 2);
    h.addSix(1, 2, 1, 1, 1, 1);
    h.index(1, 0, 0);
    h.link(0, 1, 1, 0, 2);
    for (int table = 0; table <= 1; table++) {
      for (String text : texts) {
        asked(h, table, text);
      }
    }
    same(true, change.make(h) >= 0);
    same(4 - h.house(4), h.house(5));
    int set = 0;
    for (int table = 0; table <= 1; table++) {
      for (int each = 0; each < texts.length; each++) {
        set |= type(h, texts[each]).isKept(table) ? 1 << each + 4 * table : 0;
      }
    }
    same(due, set);
    same(true, h.isSound());
  }

  private static void whatIsTakenOut() {
    int both = set(0, 1, 4, 5);
    staying(set(0, 1), h -> row(h, 1, 3), "A=1", "C!");
    staying(set(0, 1), h -> h.sow(1, 1, 3, 0), "A=1", "C!");
    staying(set(0, 1, 5), h -> h.put(1, 0, 0, 9), "A=1", "B!");
    staying(set(0, 1, 4), h -> h.put(1, 0, 1, 9), "A=1", "B!");
    staying(both, h -> h.put(1, 0, 2, 9), "A=1", "B!");
    staying(set(0, 4, 5), h -> h.put(0, 0, 1, 1), "A=1", "B!");
    // A second letter, and one behind "-" and in brackets, stands in the text, too.
    staying(set(0, 1, 4), h -> h.put(1, 0, 2, 9), "A=1", "B=C");
    staying(set(0, 1, 4), h -> h.put(1, 0, 2, 9), "A=1", "B!&-(-C~1)");
    // The row that is changed need not be one that fits.
    staying(set(0, 1, 5), h -> h.put(1, 0, 0, 3), "A=2", "B!");
    // Nothing is changed: one of SIZE 0.
    staying(both, h -> h.put(1, 0, 2, -1), "A=1", "C=1");
    // Out of table 1, and let go in table 0: the column is the one that leads there.
    staying(set(0), h -> h.drop(1, 1), "A=1", "B!");
    staying(set(0, 1), h -> h.drop(1, 0), "A=1", "B!");
    // What an earlier one has changed is no matter.
    Tablehouse g = column(1, 2);
    asked(g, 1, "B!");
    g.put(1, 0, 1, 9);
    is(1, () -> g.house(5));
    asked(g, 1, "B!");
    g.put(1, 0, 2, 9);
    g.put(0, g.addSix(1, 1, 1, 1, 1, 1), 1, 9);
    is(1, () -> g.house(5));
    is(true, () -> g.isKept(1));
    // One that fails takes none out; what is undone counts none, though rows come again.
    Tablehouse h = column(1, 2);
    h.index(1, 0, 0);
    asked(h, 1, "A=1");
    tells(h, -4, () -> h.put(1, 0, 0, 2), () -> row(h, 1, 2));
    h.begin();
    h.drop(1, 0);
    is(1, () -> h.house(5));
    h.back();
    is(1, () -> h.house(5));
    is(1, () -> h.house(4));
  }

  // ---- section 8

  private static void joins() {
    sentence("8", "A join of a COLUMN with another (or the same): PAIRS of a ROW of the first one's "
        + "TABLE with a ROW of the second one's that have the same VALUE there (NULL is none)", () -> {
          Tablehouse h = column(5, -1, 7, 5, -1);
          h.addThree(5, 7, -1);
          h.addThree(-1, 5, -1);
          for (int way = 0; way <= 2; way++) {
            same(2, h.join(1, 0, 2, 0, way));
            same(3, h.join(1, 0, 2, 1, way));
            same(5, h.join(1, 0, 1, 0, way));
            same(0, h.join(1, 0, 2, 2, way));
            same(0, h.join(1, 1, 2, 2, way));
            same(0, h.join(1, 1, 1, 1, way));
            same(0, h.join(0, 0, 1, 0, way));
          }
          is(-1, () -> h.pair(1, 1, 2, 2, 0));
        });
    sentence("8", "PAIRS are ordered by the first ROW, then by the second.", () -> {
      // The VALUES fall, so that the order by VALUE would be another one.
      Tablehouse h = column(9, 3, 9);
      h.addThree(3, 0, 0);
      h.addThree(9, 0, 0);
      h.addThree(9, 0, 0);
      int[] due = {1, 2, 32, 64 + 1, 64 + 2, -1};
      for (int k = 0; k < due.length; k++) {
        same(due[k], h.pair(1, 0, 2, 0, k));
      }
    });
    sentence("8", "WAYS: 0 ROW by ROW, 1 VALUE by VALUE in order, 2 looked up by VALUE.", () -> {
      Tablehouse h = new Tablehouse();
      h.sow(0, 12, 99, 0);
      h.sow(0, 12, 99, 0);
      h.sow(1, 12, 0, 99);
      for (int way = 0; way <= 2; way++) {
        same(576, h.join(0, 0, 0, 0, way));
        same(24, h.join(0, 0, 1, 0, way));
        same(24, h.join(1, 0, 0, 0, way));
      }
    });
    sentence("8", "GROUPS of a COLUMN: the ROWS with the same VALUE there, VALUE by VALUE, and at the "
        + "end those with NULL, if there are any.", () -> {
          Tablehouse h = column(99, -1, 0, 99, -1);
          is(3, () -> h.groups(1, 0));
          int[] values = {0, 99, -1};
          int[] sets = {set(2), set(0, 3), set(1, 4)};
          for (int k = 0; k < 3; k++) {
            same(values[k], h.group(1, 0, 0, k, 0));
            same(sets[k], h.group(1, 0, 0, k, 1));
          }
          refuses(h, OUT, () -> h.group(1, 0, 0, 3, 0));
          is(1, () -> h.groups(1, 1));
          is(-1, () -> h.group(1, 1, 0, 0, 0));
          h.put(1, 1, 0, 0);
          h.drop(1, 4);
          is(2, () -> h.groups(1, 0));
          refuses(h, OUT, () -> h.group(1, 0, 0, 2, 0));
        });
  }

  private static void cube() {
    sentence("8", "The CUBE has a TABLE and three of its COLUMNS, first, second, third (TABLE 0 with 0, "
        + "1, 2 at first).", () -> {
          Tablehouse h = new Tablehouse();
          h.addSix(10, 20, 30, 40, 50, 60);
          h.addFour(11, 21, 31, 41);
          h.addThree(12, 22, 32);
          is(1, () -> h.cell(10, 20, 30));
          is(0, () -> h.cell(11, 21, 31) + h.cell(12, 22, 32) + h.cell(40, 50, 60));
          is(1, () -> h.anyOf(0, 0, 30));
          is(0, () -> h.anyOf(20, 30, 10));
          h.cube(0, 3, 4, 5);
          is(1, () -> h.cell(40, 50, 60));
          h.cube(2, 0, 1, 2);
          is(1, () -> h.cell(12, 22, 32));
        });
    sentence("8", "A CELL is a, b, c, each of them ANY, NULL or a VALUE.", () -> {
      Tablehouse h = new Tablehouse();
      h.cube(2, 0, 1, 2);
      h.addThree(0, -1, 99);
      for (int set = 0; set <= 7; set++) {
        int a = (set & 1) == 0 ? -2 : 0;
        int b = (set & 2) == 0 ? -2 : -1;
        int c = (set & 4) == 0 ? -2 : 99;
        same(1, h.cell(a, b, c));
        same(1, h.cellsBy(set));
      }
      // NULL is not ANY, and no VALUE is NULL.
      is(0, () -> h.cell(-1, -2, -2));
      is(0, () -> h.cell(-2, 0, -2));
      is(0, () -> h.cell(-2, -2, -1));
    });
    sentence("8", "A ROW fits it, if it has a in the first COLUMN, b in the second and c in the third, "
        + "where these are not ANY.", () -> {
          Tablehouse h = new Tablehouse();
          h.cube(2, 0, 1, 2);
          h.addThree(1, 2, 3);
          h.addThree(1, 2, -1);
          h.addThree(2, 1, 3);
          is(3, () -> h.cell(-2, -2, -2));
          is(2, () -> h.cell(1, -2, -2));
          is(1, () -> h.cell(-2, 1, -2));
          is(2, () -> h.cell(-2, -2, 3));
          is(2, () -> h.cell(1, 2, -2));
          is(1, () -> h.cell(1, 2, -1));
          is(0, () -> h.cell(1, 1, -2));
        });
    sentence("8", "There are the CELLS that some ROW fits; a CELL counts the ROWS that fit it.", () -> {
      Tablehouse h = new Tablehouse();
      h.cube(2, 0, 1, 2);
      is(0, () -> h.house(9));
      is(0, () -> h.cellsBy(0));
      h.addThree(-1, -1, -1);
      is(8, () -> h.house(9));
      h.addThree(-1, -1, -1);
      is(8, () -> h.house(9));
      is(2, () -> h.cell(-1, -1, -1));
      h.put(2, 1, 0, 5);
      // Apart in the first: there are two of each where it is not ANY.
      is(12, () -> h.house(9));
      h.put(2, 1, 1, 5);
      h.put(2, 1, 2, 5);
      is(15, () -> h.house(9));
      h.drop(2, 0);
      is(8, () -> h.house(9));
      is(0, () -> h.cell(-1, -1, -1));
      h.drop(2, 1);
      is(0, () -> h.house(9));
      // Nothing in common: one for all of them, and seven for each row.
      h.sow(2, 12, 0, 1);
      h.sow(2, 12, 12, 1);
      is(1 + 7 * 24, () -> h.house(9));
      is(true, h::isSound);
    });
  }

  // ---- what holds for all methods

  private static void exceptions() {
    sentence("Description", "A method that throws an exception changes nothing.",
        DescriptionEdges::throwingChangesNothing);
    sentence("Description", "If several exceptions apply, the one that is named first is thrown.",
        DescriptionEdges::firstExceptionFirst);
    sentence("Description", "Exceptions go ahead of FAULTS and of -9.",
        DescriptionEdges::exceptionsGoAhead);
    sentence("What it is", "An object is used for at most 512 calls after it has been made",
        DescriptionEdges::lastOfManyCalls);
  }

  private static void throwingChangesNothing() {
    Tablehouse h = column(1, 2);
    h.index(1, 0, 0);
    h.index(1, 0, 1);
    h.lens(1, 0, 0, 50);
    asked(h, 1, "A=1");
    h.begin();
    // Each could do something, were it not for its last argument, or for what is open or wrong.
    refuses(h, BAD, () -> h.addSix(1, 1, 1, 1, 1, 100), () -> h.addFour(3, 1, 1, 100),
        () -> h.addThree(1, 1, 100), () -> h.sow(0, 1, 1, 100), () -> h.put(1, 0, 0, 100),
        () -> h.alter(1, 1, 100), () -> h.shift(1, 1, 100), () -> h.say(26, 1, 2, 3, 4, 27),
        () -> h.narrow(0, 1, 101), () -> h.lens(1, 0, 1, 101));
    refuses(h, OUT, () -> h.put(1, 0, 4, 5), () -> h.drop(1, 2), () -> h.scratch(1),
        () -> h.sweep(1), () -> h.kept(1, 0));
    refuses(h, STATE, () -> h.index(1, 1, 1), () -> h.unindex(1, 0, 0), () -> h.need(1, 0, true),
        () -> h.check(1, 0, 1, 2), () -> h.link(2, 0, 1, 0, 0), () -> h.unlink(2, 0),
        () -> h.cube(1, 0, 1, 2));
    type(h, "A=1&E!");
    refuses(h, STATE, () -> h.ask(1), () -> h.cut(1), () -> h.alter(1, 1, 5), () -> h.shift(1, 0, 5));
    is(1, () -> h.back() + h.house(4));
  }

  private static void firstExceptionFirst() {
    Tablehouse h = column(1);
    h.sow(1, 12, 2, 1);
    h.sow(1, 11, 30, 1);
    type(h, "A=");
    h.begin();
    h.begin();
    h.begin();
    refuses(h, OUT, () -> h.index(3, 0, 3), () -> h.unindex(0, 6, 3), () -> h.need(2, 3, true),
        () -> h.check(1, 4, 9, 8), () -> h.check(1, 4, -1, 99), () -> h.link(0, 0, 1, 4, 3),
        () -> h.unlink(2, 3), () -> h.cube(2, 3, 2, 1), () -> h.sow(3, 13, 0, 0),
        () -> h.put(1, 24, 0, 100), () -> h.put(1, 0, 4, 100), () -> h.alter(1, 4, 100),
        () -> h.shift(1, 4, 100), () -> h.cut(3), () -> h.ask(3), () -> h.road(3, 4),
        () -> h.plan(3, 0), () -> h.cost(3), () -> h.kept(0, 4), () -> h.edge(1, 4, true),
        () -> h.near(1, 4, 100, 4), () -> h.under(1, 4, 100), () -> h.whose(1, 4, 100),
        () -> h.spelled(1, 4, 10, 10), () -> h.ending(1, 4, 0), () -> h.lens(1, 4, 5, 5),
        () -> h.narrow(0, 5, 5), () -> h.ofLens(0, 6), () -> h.join(1, 0, 2, 3, 3),
        () -> h.group(1, 0, 0, 24, 6), () -> h.total(1, 4, 5), () -> h.ofTable(3, 4),
        () -> h.ofColumn(1, 4, 9));
    refuses(h, BAD, () -> h.index(1, 0, 3), () -> h.unindex(1, 0, 3), () -> h.check(1, 0, 9, 8),
        () -> h.link(0, 0, 1, 0, 3), () -> h.cube(1, 2, 1, 0), () -> h.addFour(1, 1, 1, 100),
        () -> h.sow(1, 13, 0, 0), () -> h.alter(1, 0, 100), () -> h.shift(1, 0, 100),
        () -> h.road(1, 4), () -> h.near(1, 0, 100, 0), () -> h.under(1, 0, 100),
        () -> h.whose(1, 0, 100), () -> h.spelled(1, 0, 10, 0), () -> h.spelled(1, 0, 0, 10),
        () -> h.lens(1, 0, 5, 5), () -> h.say(1, 1, 1, 1, 1, 27));
    Tablehouse g = new Tablehouse();
    for (int signs = 0; signs < 36; signs += 6) {
      g.say(1, 1, 1, 1, 1, 1);
    }
    refuses(g, BAD, () -> g.say(1, 1, 1, 1, 1, 27), () -> g.say(-2, 1, 1, 1, 1, 1));
    g.sow(0, 12, 0, 0);
    g.sow(0, 12, 0, 0);
    g.sow(2, 12, 0, 0);
    g.sow(2, 12, 0, 0);
    refuses(g, BAD, () -> g.addSix(-2, 0, 0, 0, 0, 0), () -> g.addThree(0, 0, 100),
        () -> g.sow(0, 1, 100, 0), () -> g.sow(0, 1, 0, -1));
    refuses(g, STATE, () -> g.addSix(0, 0, 0, 0, 0, 0), () -> g.addThree(0, 0, 0));
  }

  private static void exceptionsGoAhead() {
    Tablehouse h = column(5, 5, -1);
    h.index(2, 0, 0);
    h.check(1, 1, 0, 10);
    h.begin();
    // Ahead of the FAULT that a rule told would meet.
    refuses(h, STATE, () -> h.index(1, 0, 0), () -> h.need(1, 0, true), () -> h.check(1, 0, 6, 9),
        () -> h.link(1, 0, 2, 0, 0));
    h.commit();
    refuses(h, BAD, () -> h.addFour(0, 11, 0, 100), () -> h.sow(1, 13, 50, 0));
    type(h, "A=");
    refuses(h, STATE, () -> h.alter(1, 1, 11), () -> h.shift(1, 1, 11), () -> h.cut(1));
    refuses(h, BAD, () -> h.alter(1, 1, 100));
    h.sow(1, 12, 0, 0);
    h.sow(1, 9, 0, 0);
    is(24, () -> h.ofTable(1, 0));
    refuses(h, STATE, () -> h.addFour(0, 11, 0, 0), () -> h.sow(1, 1, 50, 0));
    // Ahead of -9.
    refuses(h, STATE, () -> h.edge(0, 0, true), () -> h.near(0, 0, -1, 0), () -> h.under(0, 0, -1),
        () -> h.lens(0, 0, 9, 1));
    refuses(h, BAD, () -> h.near(0, 0, -1, 4), () -> h.lens(0, 0, 99, 0));
    h.index(0, 0, 1);
    for (int lens = 0; lens < 4; lens++) {
      h.lens(0, 0, 10, 20);
    }
    refuses(h, STATE, () -> h.lens(0, 0, 9, 1));
    refuses(h, BAD, () -> h.narrow(0, 30, 0), () -> h.narrow(0, 100, 15), () -> h.narrow(0, 9, 9));
    refuses(h, OUT, () -> h.narrow(4, 9, 1), () -> h.scratch(0), () -> h.sweep(4));
    is(0, () -> h.house(7));
  }

  private static void lastOfManyCalls() {
    Tablehouse h = new Tablehouse();
    for (int call = 1; call <= 511; call++) {
      h.knock();
    }
    is(512, h::knock);
    // Rows that change over and over, with all that goes along with them.
    Tablehouse g = new Tablehouse();
    g.sow(0, 12, 0, 1);
    g.sow(0, 12, 12, 1);
    for (int kind = 0; kind <= 2; kind++) {
      g.index(0, 1, kind);
    }
    type(g, "A>5&B<90");
    for (int call = 0; call < 165; call++) {
      is(set(6, 7, 8, 9, 10, 11, 12, 13, 14, 15, 16, 17, 18, 19, 20, 21, 22, 23), () -> g.ask(0));
      is(18, () -> g.shift(0, 1, 50));
      is(18, () -> g.shift(0, 1, 50));
    }
    is(165, () -> g.house(5));
    is(true, g::isSound);
    Tablehouse f = new Tablehouse();
    for (int call = 0; call < 170; call++) {
      f.begin();
      f.sow(2, 12, call % 100, 1);
      is(12, f::back);
    }
    is(0, () -> f.ofTable(2, 0));
  }
}
