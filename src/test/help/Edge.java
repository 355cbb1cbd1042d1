import java.io.IOException;
import java.nio.file.Files;
import java.nio.file.Path;
import java.util.ArrayList;
import java.util.Arrays;
import java.util.List;

/**
 * What the tests of single sentences share. Each test stands under the words of the document that
 * it looks at; what is answered otherwise is told with these words.
 */
abstract class Edge {
  static final Object OUT = IndexOutOfBoundsException.class;
  static final Object BAD = IllegalArgumentException.class;
  static final Object STATE = IllegalStateException.class;
  static final int[] WIDTH = {6, 4, 3};
  private static final String SIGNS = "0123456789ABCDEF=<>~!&|-()";
  private static final List<String> quotes = new ArrayList<>();
  private static String current = "one promise";
  private static int looked;
  private static int wrong;

  interface Call {
    Object make();
  }

  interface OfOne {
    Object make(int number);
  }

  interface OfTwo {
    Object make(int table, int column);
  }

  /** A sentence of the document, where it stands, and the test that it alone has. */
  static void sentence(String where, String quote, Runnable test) {
    current = where + ", \"" + quote + "\"";
    quotes.add(quote);
    int before = looked;
    try {
      test.run();
    } catch (RuntimeException thrown) {
      fail("the test itself threw " + thrown);
    }
    if (looked == before) {
      fail("nothing was looked at");
    }
  }

  /** With the document's path as an argument each quote is looked for there, too. */
  static void end(String[] args) {
    if (args.length > 0) {
      findQuotes(Path.of(args[0]));
    }
    String sentences = quotes.isEmpty() ? "" : quotes.size() + " sentences, ";
    System.out.println(sentences + looked + " answers, " + wrong + " wrong");
    System.exit(wrong == 0 ? 0 : 1);
  }

  private static void findQuotes(Path path) {
    try {
      String document = Files.readString(path).replaceAll("\\s+", " ");
      for (String quote : quotes) {
        if (!document.contains(quote)) {
          System.out.println("not in the document: " + quote);
        }
      }
    } catch (IOException notRead) {
      System.out.println("the document cannot be read");
    }
  }

  static void fail(String what) {
    wrong++;
    System.out.println(current + ": " + what);
  }

  static void same(Object due, Object got) {
    looked++;
    if (!due.equals(got)) {
      fail("answered " + got + ", due is " + due + lineOfTest());
    }
  }

  private static String lineOfTest() {
    for (StackTraceElement frame : new Throwable().getStackTrace()) {
      if (!frame.getClassName().startsWith("Edge")) {
        return " (line " + frame.getLineNumber() + ")";
      }
    }
    return "";
  }

  static Object answerOf(Call call) {
    try {
      return call.make();
    } catch (RuntimeException thrown) {
      return thrown.getClass();
    }
  }

  static void is(Object due, Call call) {
    same(due, answerOf(call));
  }

  /** Each call throws just that and changes nothing. */
  static void refuses(Tablehouse h, Object due, Call... calls) {
    for (Call call : calls) {
      long digest = h.digest();
      String line = h.line();
      is(due, call);
      same(digest, h.digest());
      same(line, h.line());
    }
  }

  /** Each call tells a fault or -9, which is counted, and changes nothing else. */
  static void tells(Tablehouse h, int due, Call... calls) {
    for (Call call : calls) {
      long digest = h.digest();
      String line = h.line();
      is(due, call);
      same(digest + weightOfRefused(h), h.digest());
      same(line, h.line());
    }
  }

  /** By how much the digest is greater, if REFUSED is one more: 31 for each number behind it. */
  private static long weightOfRefused(Tablehouse h) {
    int behind = 2 + 6 * h.house(8) + 8 + 1 + 1;
    for (int table = 0; table <= 2; table++) {
      int ofLine = h.breaks(table) == -1 ? 3 : 0;
      behind += 4 + 1 + ofLine + WIDTH[table] * (9 + 1 + 5);
    }
    long weight = 1;
    for (int each = 0; each < behind; each++) {
      weight *= 31;
    }
    return weight;
  }

  /** Each call answers that and changes nothing at all. */
  static void looks(Tablehouse h, Object due, Call... calls) {
    for (Call call : calls) {
      long digest = h.digest();
      is(due, call);
      same(digest, h.digest());
    }
  }

  /** No such table is let, nor any number that is none; each that is one is let. */
  static void needsTable(Tablehouse h, OfOne call) {
    for (int table : new int[] {-1, 3, Integer.MIN_VALUE, Integer.MAX_VALUE}) {
      refuses(h, OUT, () -> call.make(table));
    }
    for (int table = 0; table <= 2; table++) {
      int each = table;
      same(false, OUT.equals(answerOf(() -> call.make(each))));
    }
  }

  /** The same for a column of a table: each table has its own last one. */
  static void needsColumn(Tablehouse h, OfTwo call) {
    for (int table : new int[] {-1, 3, Integer.MIN_VALUE, Integer.MAX_VALUE}) {
      refuses(h, OUT, () -> call.make(table, 0));
    }
    for (int table = 0; table <= 2; table++) {
      int each = table;
      int last = WIDTH[table] - 1;
      refuses(h, OUT, () -> call.make(each, -1), () -> call.make(each, last + 1),
          () -> call.make(each, Integer.MAX_VALUE));
      same(false, OUT.equals(answerOf(() -> call.make(each, 0))));
      same(false, OUT.equals(answerOf(() -> call.make(each, last))));
    }
    refuses(h, OUT, () -> call.make(0, Integer.MIN_VALUE));
  }

  /** What is below the least or above the greatest is let by no call; these two are let. */
  static void needsWithin(Tablehouse h, int least, int greatest, OfOne call) {
    for (int number : new int[] {least - 1, greatest + 1, Integer.MIN_VALUE, Integer.MAX_VALUE}) {
      refuses(h, BAD, () -> call.make(number));
    }
    same(false, BAD.equals(answerOf(() -> call.make(least))));
    same(false, BAD.equals(answerOf(() -> call.make(greatest))));
  }

  /** Not let, if LINE is not right for just that table. */
  static void needsRight(Tablehouse h, OfOne call) {
    for (String text : new String[] {"", "A!&", "A=", "(((A!)))"}) {
      type(h, text);
      refuses(h, STATE, () -> call.make(0), () -> call.make(1), () -> call.make(2));
    }
    String[] texts = {"A<C", "A<D", "A<E"};
    for (int each = 0; each < 3; each++) {
      type(h, texts[each]);
      for (int table = 0; table <= 2; table++) {
        int asked = table;
        if (table < 3 - each) {
          same(false, STATE.equals(answerOf(() -> call.make(asked))));
        } else {
          refuses(h, STATE, () -> call.make(asked));
        }
      }
    }
  }

  /** Not let within a transaction, be it the first or the third, and let again behind it. */
  static void needsNoTransaction(Tablehouse h, Call... calls) {
    for (int deep = 1; deep <= 3; deep++) {
      h.begin();
      refuses(h, STATE, calls);
    }
    h.back();
    h.commit();
    h.back();
    for (Call call : calls) {
      same(false, STATE.equals(answerOf(call)));
    }
  }

  /** Empties LINE and types a text, six signs a call. */
  static Tablehouse type(Tablehouse h, String text) {
    int[] codes = new int[6 * (text.length() / 6 + 1)];
    Arrays.fill(codes, -1);
    codes[0] = 26;
    for (int at = 0; at < text.length(); at++) {
      codes[at + 1] = SIGNS.indexOf(text.charAt(at));
    }
    for (int at = 0; at < codes.length; at += 6) {
      h.say(codes[at], codes[at + 1], codes[at + 2], codes[at + 3], codes[at + 4], codes[at + 5]);
    }
    return h;
  }

  /** By all roads: the set that is due, or a list of what they answered, if it is another. */
  static Object fitting(Tablehouse h, int table, String text) {
    type(h, text);
    List<Object> all = new ArrayList<>();
    for (int road = 0; road <= 3; road++) {
      int each = road;
      all.add(answerOf(() -> h.road(table, each)));
    }
    return all.stream().distinct().count() == 1 ? all.get(0) : all;
  }

  /** Puts a row in, with NULL behind what is given. */
  static int row(Tablehouse h, int table, int... values) {
    int[] v = new int[6];
    Arrays.fill(v, -1);
    System.arraycopy(values, 0, v, 0, values.length);
    return table == 0 ? h.addSix(v[0], v[1], v[2], v[3], v[4], v[5])
        : table == 1 ? h.addFour(v[0], v[1], v[2], v[3]) : h.addThree(v[0], v[1], v[2]);
  }

  /** Rows 0, 1, 2 and so on of table 1 with these values in their first column. */
  static Tablehouse column(int... values) {
    Tablehouse h = new Tablehouse();
    for (int value : values) {
      row(h, 1, value);
    }
    return h;
  }

  static int set(int... members) {
    int set = 0;
    for (int member : members) {
      set |= 1 << member;
    }
    return set;
  }
}
