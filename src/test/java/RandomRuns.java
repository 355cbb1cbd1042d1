import java.lang.reflect.InvocationTargetException;
import java.lang.reflect.Method;
import java.util.ArrayDeque;
import java.util.ArrayList;
import java.util.Arrays;
import java.util.Comparator;
import java.util.HashMap;
import java.util.HashSet;
import java.util.List;
import java.util.Map;
import java.util.Random;
import java.util.TreeMap;
import java.util.TreeSet;
import java.util.regex.Matcher;
import java.util.regex.Pattern;

/**
 * Long runs of calls, each answered by Tablehouse and by a plain model that keeps nothing but rows
 * and works every answer out anew; the first answer that differs ends a run.
 */
public final class RandomRuns {
  private static final int RUNS = 700;
  private static final int CALLS = 512;
  private static final Map<String, Integer> seen = new TreeMap<>();

  public static void main(String[] args) {
    List<Method> methods = new ArrayList<>(Arrays.asList(Tablehouse.class.getDeclaredMethods()));
    methods.removeIf(m -> !java.lang.reflect.Modifier.isPublic(m.getModifiers()));
    methods.sort(Comparator.comparing(Method::getName));
    int wrong = methods.size() == 57 ? 0 : 1;
    for (int run = 0; run < RUNS && wrong < 3; run++) {
      if (!isRunRight(run, methods)) {
        wrong++;
      }
    }
    for (Method method : methods) {
      if (!seen.containsKey(method.getName() + " answered")) {
        System.out.println("never answered: " + method.getName());
        wrong++;
      }
      for (Class<?> e : method.getExceptionTypes()) {
        if (!seen.containsKey(method.getName() + " " + e.getSimpleName())) {
          System.out.println("never seen: " + method.getName() + " " + e.getSimpleName());
          wrong++;
        }
      }
    }
    if (args.length > 0) {
      System.out.println(seen);
    }
    System.out.println(wrong == 0 ? "all runs agree" : "runs disagree");
    System.exit(wrong == 0 ? 0 : 1);
  }

  private static boolean isRunRight(int run, List<Method> methods) {
    Random random = new Random(run);
    Tablehouse house = new Tablehouse();
    Model model = new Model();
    Caller caller = new Caller(random, model, run);
    StringBuilder told = new StringBuilder();
    // An object has so many calls, the digests among them; in some runs each is looked at.
    int between = run % 8 == 0 ? 1 : 8;
    int made = 0;
    for (int call = 0; made < CALLS; call++) {
      Object[] next = caller.next(methods);
      Method method = (Method) next[0];
      Object[] arguments = (Object[]) next[1];
      Object got = answer(house, method, arguments);
      made++;
      Object due = answer(model, modelMethod(method), arguments);
      told.append(method.getName()).append(Arrays.toString(arguments)).append(" -> ").append(got)
          .append('\n');
      count(method.getName() + (got instanceof String s && s.startsWith("throws ")
          ? " " + s.substring(7) : " answered"));
      if (got instanceof Integer i && i < -1 && i >= -9) {
        count(method.getName() + " told " + i);
      }
      if (!got.equals(due)) {
        System.out.println("run " + run + " call " + call + ": due is " + due + "\n" + told);
        return false;
      }
      if (call % between == 0 && made < CALLS) {
        made++;
        if (house.digest() != model.digest()) {
          System.out.println("run " + run + " call " + call + ": digest\n" + told);
          return false;
        }
      }
    }
    return true;
  }

  private static void count(String what) {
    seen.merge(what, 1, Integer::sum);
  }

  private static Method modelMethod(Method method) {
    try {
      return Model.class.getMethod(method.getName(), method.getParameterTypes());
    } catch (NoSuchMethodException e) {
      throw new IllegalStateException(e);
    }
  }

  private static Object answer(Object object, Method method, Object[] arguments) {
    try {
      return method.invoke(object, arguments);
    } catch (InvocationTargetException e) {
      Throwable cause = e.getCause();
      if (cause.getClass() != IndexOutOfBoundsException.class
          && cause.getClass() != IllegalArgumentException.class
          && cause.getClass() != IllegalStateException.class) {
        cause.printStackTrace();
      }
      return "throws " + cause.getClass().getSimpleName();
    } catch (IllegalAccessException e) {
      throw new IllegalStateException(e);
    }
  }

  /** Chooses calls so that most of them find something, and some nothing. */
  private static final class Caller {
    private static final String SIGNS = "0123456789ABCDEF=<>~!&|-()";
    private static final int LINKS = 21;
    private final Random random;
    private final Model model;
    private final int span;
    private final boolean isLinked;
    private int made;
    private final ArrayDeque<Integer> typing = new ArrayDeque<>();
    private final List<String> texts = new ArrayList<>();

    Caller(Random random, Model model, int run) {
      this.random = random;
      this.model = model;
      this.span = new int[] {6, 15, 40, 100}[run % 4];
      this.isLinked = run % 3 == 0;
    }

    Object[] next(List<Method> methods) {
      if (!typing.isEmpty()) {
        Object[] codes = new Object[6];
        for (int i = 0; i < 6; i++) {
          codes[i] = typing.isEmpty() ? -1 : typing.poll();
        }
        return new Object[] {named(methods, "say"), codes};
      }
      int kind = random.nextInt(100);
      made++;
      if (isLinked && (made <= LINKS || kind % 2 == 0)) {
        return nextAmongLinks(methods);
      }
      if (kind < 12) {
        typing.add(26);
        for (char sign : text().toCharArray()) {
          typing.add(SIGNS.indexOf(sign));
        }
      }
      String[] often = kind < 30
          ? new String[] {"addSix", "addFour", "addThree", "put", "sow", "drop", "shift", "alter"}
          : kind < 45 ? new String[] {"ask", "road", "plan", "cost", "breaks", "isKept", "kept"}
          : kind < 55 || made < 30 ? new String[] {"index", "index", "index", "index", "link", "link", "need", "cube"}
          : kind < 65 ? new String[] {"begin", "back", "back", "commit", "commit", "narrow", "sweep", "cut", "cut", "lens", "drop"}
          : null;
      Method method = often == null ? methods.get(random.nextInt(methods.size()))
          : named(methods, often[random.nextInt(often.length)]);
      String name = method.getName();
      if (often == null && random.nextInt(4) != 0
          && List.of("check", "shut", "need", "unindex", "unlink", "begin").contains(name)) {
        method = named(methods, new String[] {"addSix", "addFour", "addThree"}[random.nextInt(3)]);
      }
      return new Object[] {method, arguments(method)};
    }

    /**
     * First many links are made, most to columns that have links, too; then rows go in that find what
     * their links ask for, and out again, so that others fall with them or let go.
     */
    private Object[] nextAmongLinks(List<Method> methods) {
      if (made <= LINKS / 3) {
        return new Object[] {named(methods, "index"), new Object[] {made % 3, made / 3 % 3, 0}};
      }
      int table = random.nextInt(3);
      int width = Model.WIDTH[table];
      if (made <= LINKS) {
        int kind = new int[] {0, 1, 1, 1, 2, 2, 2}[random.nextInt(7)];
        return new Object[] {named(methods, "link"), new Object[] {table, 1 + random.nextInt(width - 1),
            random.nextInt(3), random.nextInt(2), kind}};
      }
      if (random.nextInt(9) < 6 || model.rows.get(table).isEmpty()) {
        Object[] values = new Object[width];
        for (int column = 0; column < width; column++) {
          values[column] = fitting(table, column);
        }
        return new Object[] {named(methods, new String[] {"addSix", "addFour", "addThree"}[table]), values};
      }
      String[] often = {"drop", "drop", "drop", "put", "ask", "sweep", "begin", "back", "back", "commit"};
      Method method = named(methods, often[random.nextInt(often.length)]);
      Object[] all = arguments(method);
      if (method.getName().equals("put")) {
        all[3] = in(all[0], 0, 2) && in(all[2], 0, Model.WIDTH[(int) all[0]] - 1)
            ? fitting((int) all[0], (int) all[2]) : 1;
      }
      return new Object[] {method, all};
    }

    private static boolean in(Object number, int low, int high) {
      return Model.in((int) number, low, high);
    }

    /** What a link of the column would find; any value, if there is no link. */
    private int fitting(int table, int column) {
      Model.Link link = model.links[table][column];
      if (link == null || random.nextInt(40) == 0) {
        return random.nextInt(6) == 0 ? -1 : random.nextInt(100);
      }
      List<Integer> all = model.values(link.toTable, link.toColumn);
      return all.isEmpty() || random.nextInt(4) == 0 ? -1 : all.get(random.nextInt(all.size()));
    }

    private static Method named(List<Method> methods, String name) {
      for (Method method : methods) {
        if (method.getName().equals(name)) {
          return method;
        }
      }
      throw new IllegalStateException(name);
    }

    private Object[] arguments(Method method) {
      int count = method.getParameterCount();
      Object[] all = new Object[count];
      String name = method.getName();
      int table = random.nextInt(60) == 0 ? random.nextInt(2) * 4 - 1 : random.nextInt(3);
      boolean isForTable = List.of("index", "unindex", "need", "check", "link", "unlink", "cube", "sow", "put",
          "drop", "cut", "alter", "shift", "breaks", "ask", "road", "plan", "cost", "isKept", "edge", "near",
          "under", "whose", "spelled", "ending", "lens", "join", "pair", "groups", "group", "total", "ranked",
          "get", "ofTable", "ofColumn").contains(name);
      for (int i = 0; i < count; i++) {
        all[i] = method.getParameterTypes()[i] == boolean.class ? random.nextBoolean() : value();
      }
      if (isForTable) {
        all[0] = table;
        boolean hasColumn = !List.of("sow", "put", "drop", "cut", "breaks", "ask", "road", "plan", "cost",
            "isKept", "get", "ofTable").contains(name);
        if (hasColumn) {
          all[1] = column(table);
        }
      }
      switch (name) {
        case "index", "unindex" -> all[2] = edged(0, 2);
        case "check" -> {
          all[2] = random.nextInt(3) == 0 ? edged(0, 99) : 0;
          all[3] = random.nextInt(3) == 0 ? edged(0, 99) : 99 - random.nextInt(3) * 30;
        }
        case "link" -> {
          int to = edged(0, 2);
          all[2] = to;
          all[3] = column(to);
          all[4] = edged(0, 2);
        }
        case "cube" -> {
          for (int i = 1; i <= 3; i++) {
            all[i] = Math.min(i - 1 + random.nextInt(3), column(table) + 3);
          }
        }
        case "sow" -> {
          all[1] = random.nextInt(20) == 0 ? edged(1, 12) : 1 + random.nextInt(4);
          all[2] = edged(0, 99);
          all[3] = random.nextInt(3) == 0 ? edged(0, 99) : random.nextInt(3);
        }
        case "put", "get" -> {
          all[1] = row(table);
          all[2] = column(table);
        }
        case "drop" -> all[1] = row(table);
        case "shift" -> all[2] = edged(0, 99);
        case "say" -> {
          for (int i = 0; i < 6; i++) {
            all[i] = random.nextInt(200) == 0 ? random.nextInt(2) * 29 - 2
                : random.nextInt(3) == 0 ? random.nextInt(26) : -1;
          }
        }
        case "road" -> all[1] = edged(0, 3);
        case "plan" -> all[1] = random.nextInt(5) - 1;
        case "kept" -> {
          all[0] = random.nextInt(7) - 1;
          all[1] = edged(0, 3);
        }
        case "scratch" -> all[0] = random.nextInt(7) - 1;
        case "near" -> all[3] = edged(0, 3);
        case "spelled" -> {
          all[2] = edged(0, 9);
          all[3] = edged(-1, 9);
        }
        case "ending" -> all[2] = random.nextInt(20) - 1;
        case "lens" -> span(all, 2);
        case "narrow" -> {
          all[0] = random.nextInt(5) - (random.nextInt(10) == 0 ? 1 : 0);
          span(all, 1);
        }
        case "ofLens" -> {
          all[0] = random.nextInt(5) - (random.nextInt(10) == 0 ? 1 : 0);
          all[1] = edged(0, 5);
        }
        case "sweep" -> all[0] = random.nextInt(5) - 1;
        case "join", "pair" -> {
          int to = edged(0, 2);
          all[2] = to;
          all[3] = column(to);
          all[4] = name.equals("join") ? edged(0, 2) : random.nextInt(12) - 1;
        }
        case "group" -> {
          all[2] = column(table);
          all[3] = random.nextInt(8) - 1;
          all[4] = edged(0, 5);
        }
        case "total" -> all[2] = edged(0, 4);
        case "ranked" -> all[3] = random.nextInt(14) - 1;
        case "cellsBy" -> all[0] = edged(0, 7);
        case "cell" -> {
          for (int i = 0; i < 3; i++) {
            all[i] = random.nextInt(3) == 0 ? -2 : value();
          }
        }
        case "ofTable" -> all[1] = edged(0, 3);
        case "ofColumn" -> all[2] = edged(0, 8);
        case "house" -> all[0] = edged(0, 9);
        default -> { }
      }
      return all;
    }

    private void span(Object[] all, int at) {
      int low = random.nextInt(40);
      int high = 30 + random.nextInt(71);
      if (random.nextInt(6) == 0) {
        low = edged(0, 99);
        high = edged(1, 100);
      }
      all[at] = low;
      all[at + 1] = high;
    }

    private int edged(int low, int high) {
      return random.nextInt(25) == 0 ? (random.nextBoolean() ? low - 1 : high + 1)
          : low + random.nextInt(high - low + 1);
    }

    private int value() {
      int kind = random.nextInt(60);
      return kind == 0 ? -2 - random.nextInt(2) : kind == 1 ? 100 : kind < 8 ? -1 : kind < 10 ? 99
          : random.nextInt(span);
    }

    private int column(int table) {
      int width = table < 0 || table > 2 ? 6 : new int[] {6, 4, 3}[table];
      return random.nextInt(50) == 0 ? random.nextInt(2) * (width + 1) - 1 : random.nextInt(width);
    }

    private int row(int table) {
      if (table < 0 || table > 2 || random.nextInt(12) == 0 || model.rows.get(table).isEmpty()) {
        return random.nextInt(26) - 1;
      }
      List<Integer> all = new ArrayList<>(model.rows.get(table).keySet());
      return all.get(random.nextInt(all.size()));
    }

    private String text() {
      if (!texts.isEmpty() && random.nextInt(3) == 0) {
        return texts.get(random.nextInt(texts.size()));
      }
      StringBuilder b = new StringBuilder();
      sentence(b, 0);
      if (random.nextInt(4) == 0 && b.length() > 1) {
        int at = random.nextInt(b.length());
        if (random.nextBoolean()) {
          b.setLength(at);
        } else {
          b.setCharAt(at, SIGNS.charAt(random.nextInt(26)));
        }
      }
      if (b.length() > 40 && random.nextInt(10) != 0) {
        b.setLength(40);
      }
      texts.add(b.toString());
      return b.toString();
    }

    private void sentence(StringBuilder b, int depth) {
      do {
        do {
          fact(b, depth);
        } while (random.nextInt(3) == 0 && b.length() < 34 && b.append('&') != null);
      } while (random.nextInt(3) == 0 && b.length() < 34 && b.append('|') != null);
    }

    private void fact(StringBuilder b, int depth) {
      while (random.nextInt(5) == 0) {
        b.append('-');
      }
      if (random.nextInt(5) == 0 && depth < 3 && b.length() < 25) {
        b.append('(');
        sentence(b, depth + 1);
        b.append(')');
        return;
      }
      b.append(letter());
      char sign = "=<>~!".charAt(random.nextInt(5));
      b.append(sign);
      if (sign == '~') {
        b.append(digits());
      } else if (sign != '!') {
        b.append(random.nextInt(4) == 0 ? "" + letter() : digits());
      }
    }

    private char letter() {
      return "ABC".charAt(random.nextInt(3)) == 'A' ? 'A' : "ABCABCDEF".charAt(random.nextInt(9));
    }

    private String digits() {
      int number = random.nextInt(span);
      return random.nextInt(5) == 0 ? "0" + number % 10 : "" + number;
    }
  }

  /** The document once more, told as plainly as it can be: rows, and what is told of them. */
  public static final class Model {
    static final int[] WIDTH = {6, 4, 3};
    static final String[] SYLLABLES = {"a", "b", "ab", "ba", "aa", "bb", "aba", "bab", "abb", "baa"};

    record Fault(int number) { }

    static final class Link {
      int toTable;
      int toColumn;
      int kind;
    }

    static final class Answer {
      int table;
      String text;
      int set;
    }

    static final class Then {
      List<TreeMap<Integer, int[]>> rows;
      List<Answer> answers;
      int sum;
    }

    List<TreeMap<Integer, int[]>> rows = List.of(new TreeMap<>(), new TreeMap<>(), new TreeMap<>());
    final boolean[][][] indexes = new boolean[3][6][3];
    final boolean[][] needed = new boolean[3][6];
    final int[][][] range = new int[3][6][];
    final Link[][] links = new Link[3][6];
    int[] cubeOf = {0, 0, 1, 2};
    final List<Then> open = new ArrayList<>();
    String text = "";
    List<Answer> answers = new ArrayList<>();
    final List<int[]> lenses = new ArrayList<>();
    int hits;
    int misses;
    int takenOut;
    int pushedOut;
    int refused;
    int knocks;

    public Model() {
      for (int[][] table : range) {
        for (int column = 0; column < 6; column++) {
          table[column] = new int[] {0, 99};
        }
      }
    }

    // -- guards

    private static void bounds(boolean isRight) {
      if (!isRight) {
        throw new IndexOutOfBoundsException();
      }
    }

    private static void argument(boolean isRight) {
      if (!isRight) {
        throw new IllegalArgumentException();
      }
    }

    private static void state(boolean isRight) {
      if (!isRight) {
        throw new IllegalStateException();
      }
    }

    private static boolean in(int n, int low, int high) {
      return low <= n && n <= high;
    }

    private static void t(int table) {
      bounds(in(table, 0, 2));
    }

    private static void c(int table, int column) {
      t(table);
      bounds(in(column, 0, WIDTH[table] - 1));
    }

    private void r(int table, int row) {
      t(table);
      bounds(rows.get(table).containsKey(row));
    }

    private int refuse(int number) {
      refused++;
      return number;
    }

    // -- rules

    private List<Integer> values(int table, int column) {
      List<Integer> all = new ArrayList<>();
      for (int[] row : rows.get(table).values()) {
        if (row[column] >= 0) {
          all.add(row[column]);
        }
      }
      return all;
    }

    private int fault() {
      boolean isNull = false;
      boolean isOut = false;
      boolean isTwin = false;
      boolean isLost = false;
      for (int t = 0; t < 3; t++) {
        for (int c = 0; c < WIDTH[t]; c++) {
          List<Integer> all = values(t, c);
          isNull |= needed[t][c] && all.size() < rows.get(t).size();
          int low = range[t][c][0];
          int high = range[t][c][1];
          isOut |= all.stream().anyMatch(v -> v < low || v > high);
          isTwin |= indexes[t][c][0] && new HashSet<>(all).size() < all.size();
          Link link = links[t][c];
          isLost |= link != null && !values(link.toTable, link.toColumn).containsAll(all);
        }
      }
      return isNull ? -2 : isOut ? -3 : isTwin ? -4 : isLost ? -5 : 0;
    }

    public int index(int table, int column, int kind) {
      c(table, column);
      argument(in(kind, 0, 2));
      state(open.isEmpty());
      if (indexes[table][column][kind]) {
        return 0;
      }
      indexes[table][column][kind] = true;
      if (fault() != 0) {
        indexes[table][column][kind] = false;
        return refuse(-4);
      }
      return 1;
    }

    public boolean unindex(int table, int column, int kind) {
      c(table, column);
      argument(in(kind, 0, 2));
      state(open.isEmpty());
      for (Link[] of : links) {
        for (Link link : of) {
          state(kind != 0 || link == null || link.toTable != table || link.toColumn != column);
        }
      }
      for (int[] lens : lenses) {
        state(kind != 1 || lens[0] != table || lens[1] != column);
      }
      boolean had = indexes[table][column][kind];
      indexes[table][column][kind] = false;
      return had;
    }

    public int need(int table, int column, boolean isNeeded) {
      c(table, column);
      state(open.isEmpty());
      boolean was = needed[table][column];
      needed[table][column] = isNeeded;
      if (fault() != 0) {
        needed[table][column] = was;
        return refuse(-2);
      }
      return 1;
    }

    public int check(int table, int column, int low, int high) {
      c(table, column);
      argument(in(low, 0, 99) && in(high, low, 99));
      state(open.isEmpty());
      int[] was = range[table][column];
      range[table][column] = new int[] {low, high};
      if (fault() != 0) {
        range[table][column] = was;
        return refuse(-3);
      }
      return 1;
    }

    public int link(int table, int column, int toTable, int toColumn, int kind) {
      c(table, column);
      c(toTable, toColumn);
      argument(in(kind, 0, 2));
      state(open.isEmpty() && links[table][column] == null && indexes[toTable][toColumn][0]);
      Link link = new Link();
      link.toTable = toTable;
      link.toColumn = toColumn;
      link.kind = kind;
      links[table][column] = link;
      if (fault() != 0) {
        links[table][column] = null;
        return refuse(-5);
      }
      return 1;
    }

    public boolean unlink(int table, int column) {
      c(table, column);
      state(open.isEmpty());
      boolean had = links[table][column] != null;
      links[table][column] = null;
      return had;
    }

    private Map<List<Integer>, Integer> cells() {
      Map<List<Integer>, Integer> all = new HashMap<>();
      for (int[] row : rows.get(cubeOf[0]).values()) {
        for (int set = 0; set < 8; set++) {
          List<Integer> key = new ArrayList<>();
          for (int place = 0; place < 3; place++) {
            key.add((set >> place & 1) == 1 ? row[cubeOf[place + 1]] : -2);
          }
          all.merge(key, 1, Integer::sum);
        }
      }
      return all;
    }

    public int cube(int table, int one, int two, int three) {
      c(table, one);
      c(table, two);
      c(table, three);
      argument(one < two && two < three);
      state(open.isEmpty());
      cubeOf = new int[] {table, one, two, three};
      return cells().size();
    }

    // -- changes

    private static List<TreeMap<Integer, int[]>> copy(List<TreeMap<Integer, int[]>> of) {
      List<TreeMap<Integer, int[]>> all = new ArrayList<>();
      for (TreeMap<Integer, int[]> table : of) {
        TreeMap<Integer, int[]> copy = new TreeMap<>();
        table.forEach((row, values) -> copy.put(row, values.clone()));
        all.add(copy);
      }
      return all;
    }

    /** The change to the rows that are given; the size of it, or a fault. */
    private int make(List<TreeMap<Integer, int[]>> then) {
      List<TreeMap<Integer, int[]>> was = rows;
      rows = then;
      int fault = fault();
      if (fault != 0) {
        rows = was;
        return refuse(fault);
      }
      int size = 0;
      TreeSet<String> touched = new TreeSet<>();
      for (int t = 0; t < 3; t++) {
        for (int row = 0; row < 24; row++) {
          int[] a = was.get(t).get(row);
          int[] b = rows.get(t).get(row);
          if (a == null && b == null || a != null && b != null && Arrays.equals(a, b)) {
            continue;
          }
          size++;
          for (int c = 0; c < WIDTH[t]; c++) {
            if (a == null || b == null) {
              touched.add(t + "*");
            } else if (a[c] != b[c]) {
              touched.add(t + "" + (char) ('A' + c));
            }
          }
        }
      }
      List<Answer> stay = new ArrayList<>();
      for (Answer answer : answers) {
        boolean isOut = touched.contains(answer.table + "*");
        for (char sign : answer.text.toCharArray()) {
          isOut |= Character.isLetter(sign) && touched.contains(answer.table + "" + sign);
        }
        if (isOut) {
          takenOut++;
        } else {
          stay.add(answer);
        }
      }
      answers = stay;
      if (!open.isEmpty()) {
        open.get(open.size() - 1).sum += size;
      }
      return size;
    }

    private static int free(TreeMap<Integer, int[]> table) {
      int row = 0;
      while (table.containsKey(row)) {
        row++;
      }
      return row;
    }

    private int add(int table, int... values) {
      for (int value : values) {
        argument(in(value, -1, 99));
      }
      state(rows.get(table).size() < 24);
      List<TreeMap<Integer, int[]>> then = copy(rows);
      int row = free(then.get(table));
      then.get(table).put(row, values);
      int answer = make(then);
      return answer < 0 ? answer : row;
    }

    public int addSix(int a, int b, int c, int d, int e, int f) {
      return add(0, a, b, c, d, e, f);
    }

    public int addFour(int a, int b, int c, int d) {
      return add(1, a, b, c, d);
    }

    public int addThree(int a, int b, int c) {
      return add(2, a, b, c);
    }

    public int sow(int table, int many, int from, int step) {
      t(table);
      argument(in(many, 1, 12) && in(from, 0, 99) && in(step, 0, 99));
      state(rows.get(table).size() + many <= 24);
      List<TreeMap<Integer, int[]>> then = copy(rows);
      for (int k = 0; k < many; k++) {
        int[] values = new int[WIDTH[table]];
        for (int j = 0; j < values.length; j++) {
          values[j] = (from + step * k + 7 * j) % 100;
        }
        then.get(table).put(free(then.get(table)), values);
      }
      return make(then);
    }

    public int put(int table, int row, int column, int value) {
      r(table, row);
      c(table, column);
      argument(in(value, -1, 99));
      List<TreeMap<Integer, int[]>> then = copy(rows);
      then.get(table).get(row)[column] = value;
      return make(then);
    }

    private int take(int table, int set) {
      TreeSet<Integer> gone = new TreeSet<>();
      ArrayDeque<Integer> queue = new ArrayDeque<>();
      for (int row : rows.get(table).keySet()) {
        if ((set >> row & 1) == 1) {
          queue.add(100 * table + row);
        }
      }
      List<TreeMap<Integer, int[]>> then = copy(rows);
      while (!queue.isEmpty()) {
        int one = queue.poll();
        if (!gone.add(one)) {
          continue;
        }
        then.get(one / 100).remove(one % 100);
        int[] values = rows.get(one / 100).get(one % 100);
        for (int t = 0; t < 3; t++) {
          for (int c = 0; c < WIDTH[t]; c++) {
            Link link = links[t][c];
            if (link == null || link.toTable != one / 100 || values[link.toColumn] < 0) {
              continue;
            }
            for (int row : rows.get(t).keySet()) {
              if (rows.get(t).get(row)[c] == values[link.toColumn]) {
                if (link.kind == 1) {
                  queue.add(100 * t + row);
                } else if (link.kind == 2 && then.get(t).containsKey(row)) {
                  then.get(t).get(row)[c] = -1;
                }
              }
            }
          }
        }
      }
      int answer = make(then);
      return answer < 0 ? answer : gone.size();
    }

    public int drop(int table, int row) {
      r(table, row);
      return take(table, 1 << row);
    }

    public int cut(int table) {
      return take(table, fitting(table));
    }

    public int alter(int table, int column, int value) {
      c(table, column);
      argument(in(value, -1, 99));
      int set = fitting(table);
      List<TreeMap<Integer, int[]>> then = copy(rows);
      then.get(table).forEach((row, values) -> {
        if ((set >> row & 1) == 1) {
          values[column] = value;
        }
      });
      return make(then);
    }

    public int shift(int table, int column, int by) {
      c(table, column);
      argument(in(by, 0, 99));
      int set = fitting(table);
      List<TreeMap<Integer, int[]>> then = copy(rows);
      then.get(table).forEach((row, values) -> {
        if ((set >> row & 1) == 1 && values[column] >= 0) {
          values[column] = (values[column] + by) % 100;
        }
      });
      return make(then);
    }

    // -- transactions

    public int begin() {
      state(open.size() < 3);
      Then then = new Then();
      then.rows = copy(rows);
      then.answers = new ArrayList<>(answers);
      open.add(then);
      return open.size();
    }

    public int commit() {
      state(!open.isEmpty());
      int sum = open.remove(open.size() - 1).sum;
      if (!open.isEmpty()) {
        open.get(open.size() - 1).sum += sum;
      }
      return sum;
    }

    public int back() {
      state(!open.isEmpty());
      Then then = open.remove(open.size() - 1);
      rows = then.rows;
      answers = then.answers;
      return then.sum;
    }

    // -- the line

    public int say(int a, int b, int c, int d, int e, int f) {
      int[] codes = {a, b, c, d, e, f};
      for (int code : codes) {
        argument(in(code, -1, 26));
      }
      String next = text;
      for (int code : codes) {
        if (code >= 0) {
          next = code == 26 ? "" : next + Caller.SIGNS.charAt(code);
        }
        state(next.length() <= 40);
      }
      text = next;
      return text.length();
    }

    public String line() {
      return text;
    }

    private static final Pattern[] RIGHT = new Pattern[3];

    static {
      for (int table = 0; table < 3; table++) {
        String letter = "[" + "ABCDEF".substring(0, WIDTH[table]) + "]";
        String fact = "-*" + letter + "(?:!|[=<>](?:[0-9][0-9]?|" + letter + ")|~[0-9][0-9]?)";
        String sentence = fact + "(?:[&|]" + fact + ")*";
        for (int depth = 0; depth < 2; depth++) {
          String wider = "(?:" + fact + "|-*\\(" + sentence + "\\))";
          sentence = wider + "(?:[&|]" + wider + ")*";
        }
        RIGHT[table] = Pattern.compile(sentence);
      }
    }

    private static boolean isRight(int table, String text) {
      return RIGHT[table].matcher(text).matches();
    }

    public int breaks(int table) {
      t(table);
      if (isRight(table, text)) {
        return -1;
      }
      for (int length = text.length(); length > 0; length--) {
        Matcher matcher = RIGHT[table].matcher(text.substring(0, length));
        if (matcher.matches() || matcher.hitEnd()) {
          return length;
        }
      }
      return 0;
    }

    private int fitting(int table) {
      t(table);
      state(isRight(table, text));
      return fitting(table, text);
    }

    private int fitting(int table, String what) {
      int set = 0;
      for (Map.Entry<Integer, int[]> row : rows.get(table).entrySet()) {
        set |= fits(row.getValue(), what) ? 1 << row.getKey() : 0;
      }
      return set;
    }

    /** Splits at a sign that stands in no bracket. */
    private static List<String> parts(String what, char at) {
      List<String> parts = new ArrayList<>();
      int depth = 0;
      StringBuilder part = new StringBuilder();
      for (char sign : what.toCharArray()) {
        depth += sign == '(' ? 1 : sign == ')' ? -1 : 0;
        if (sign == at && depth == 0) {
          parts.add(part.toString());
          part.setLength(0);
        } else {
          part.append(sign);
        }
      }
      parts.add(part.toString());
      return parts;
    }

    private static boolean fits(int[] row, String what) {
      List<String> terms = parts(what, '|');
      if (terms.size() > 1) {
        return terms.stream().anyMatch(term -> fits(row, term));
      }
      List<String> facts = parts(what, '&');
      if (facts.size() > 1) {
        return facts.stream().allMatch(fact -> fits(row, fact));
      }
      if (what.charAt(0) == '-') {
        return !fits(row, what.substring(1));
      }
      if (what.charAt(0) == '(') {
        return fits(row, what.substring(1, what.length() - 1));
      }
      int value = row[what.charAt(0) - 'A'];
      if (what.charAt(1) == '!') {
        return value < 0;
      }
      String rest = what.substring(2);
      if (what.charAt(1) == '~') {
        StringBuilder part = new StringBuilder();
        for (char digit : rest.toCharArray()) {
          part.append(SYLLABLES[digit - '0']);
        }
        return value >= 0 && word(value).contains(part);
      }
      int beside = Character.isLetter(rest.charAt(0)) ? row[rest.charAt(0) - 'A'] : Integer.parseInt(rest);
      if (value < 0 || beside < 0) {
        return false;
      }
      return what.charAt(1) == '=' ? value == beside : what.charAt(1) == '<' ? value < beside : value > beside;
    }

    private static String word(int value) {
      return SYLLABLES[value / 10] + SYLLABLES[value % 10];
    }

    private Answer keptFor(int table) {
      for (Answer answer : answers) {
        if (answer.table == table && answer.text.equals(text)) {
          return answer;
        }
      }
      return null;
    }

    public int ask(int table) {
      int set = fitting(table);
      Answer answer = keptFor(table);
      if (answer != null) {
        hits++;
        answers.remove(answer);
      } else {
        misses++;
        answer = new Answer();
        answer.table = table;
        answer.text = text;
        answer.set = set;
      }
      answers.add(answer);
      if (answers.size() == 6) {
        answers.remove(0);
        pushedOut++;
      }
      return answer.set;
    }

    public int road(int table, int road) {
      t(table);
      argument(in(road, 0, 3));
      return fitting(table);
    }

    /** Number and reads of what is chosen; null, if nothing is. */
    private int[] chosen(int table, String term) {
      int[] best = null;
      List<String> facts = parts(term, '&');
      for (int k = 0; k < facts.size(); k++) {
        String fact = facts.get(k);
        if (!fact.matches("[A-F](!|[=<>~][0-9]+)")) {
          continue;
        }
        boolean[] has = indexes[table][fact.charAt(0) - 'A'];
        char sign = fact.charAt(1);
        if (sign == '~' ? has[2] : has[1] || sign == '=' && has[0]) {
          int reads = Integer.bitCount(fitting(table, fact));
          if (best == null || reads < best[1]) {
            best = new int[] {k, reads};
          }
        }
      }
      return best;
    }

    public int plan(int table, int term) {
      fitting(table);
      List<String> terms = parts(text, '|');
      int[] best = in(term, 0, terms.size() - 1) ? chosen(table, terms.get(term)) : null;
      return best == null ? -1 : best[0];
    }

    public int cost(int table) {
      fitting(table);
      int sum = 0;
      for (String term : parts(text, '|')) {
        int[] best = chosen(table, term);
        sum += best == null ? 1000 : best[1];
      }
      return sum < rows.get(table).size() ? sum : rows.get(table).size();
    }

    public boolean isKept(int table) {
      t(table);
      return keptFor(table) != null;
    }

    public int kept(int answer, int what) {
      bounds(in(answer, 0, answers.size() - 1));
      argument(in(what, 0, 3));
      Answer asked = answers.get(answer);
      int letters = 0;
      for (char sign : asked.text.toCharArray()) {
        letters |= Character.isLetter(sign) ? 1 << sign - 'A' : 0;
      }
      return new int[] {asked.table, asked.set, letters, asked.text.length()}[what];
    }

    public int scratch(int answer) {
      bounds(in(answer, 0, answers.size() - 1));
      return refuse(-9);
    }

    // -- indexes and lenses

    private TreeMap<Integer, Integer> ordered(int table, int column) {
      TreeMap<Integer, Integer> all = new TreeMap<>();
      rows.get(table).forEach((row, values) -> {
        if (values[column] >= 0) {
          all.merge(values[column], 1 << row, (a, b) -> a | b);
        }
      });
      return all;
    }

    private static int orNone(Integer found) {
      return found == null ? -1 : found;
    }

    public int edge(int table, int column, boolean isLast) {
      c(table, column);
      state(indexes[table][column][1]);
      TreeMap<Integer, Integer> all = ordered(table, column);
      return all.isEmpty() ? refuse(-9) : isLast ? all.lastKey() : all.firstKey();
    }

    public int near(int table, int column, int value, int way) {
      c(table, column);
      argument(in(value, -1, 99) && in(way, 0, 3));
      state(indexes[table][column][1]);
      if (value < 0) {
        return refuse(-9);
      }
      TreeMap<Integer, Integer> all = ordered(table, column);
      return orNone(way == 0 ? all.floorKey(value) : way == 1 ? all.lowerKey(value)
          : way == 2 ? all.ceilingKey(value) : all.higherKey(value));
    }

    public int under(int table, int column, int value) {
      c(table, column);
      argument(in(value, -1, 99));
      state(indexes[table][column][1]);
      return value < 0 ? refuse(-9) : ordered(table, column).getOrDefault(value, 0);
    }

    public int whose(int table, int column, int value) {
      c(table, column);
      argument(in(value, -1, 99));
      state(indexes[table][column][0]);
      for (int row : rows.get(table).keySet()) {
        if (value >= 0 && rows.get(table).get(row)[column] == value) {
          return row;
        }
      }
      return -1;
    }

    public int spelled(int table, int column, int one, int two) {
      c(table, column);
      argument(in(one, 0, 9) && in(two, -1, 9));
      state(indexes[table][column][2]);
      return fitting(table, (char) ('A' + column) + "~" + one + (two < 0 ? "" : two));
    }

    private List<String> endings(int table, int column) {
      TreeSet<String> all = new TreeSet<>();
      for (int value : values(table, column)) {
        for (int from = 0; from < word(value).length(); from++) {
          all.add(word(value).substring(from));
        }
      }
      return new ArrayList<>(all);
    }

    public String ending(int table, int column, int k) {
      c(table, column);
      state(indexes[table][column][2]);
      List<String> all = endings(table, column);
      return in(k, 0, all.size() - 1) ? all.get(k) : "";
    }

    public int lens(int table, int column, int low, int high) {
      c(table, column);
      argument(in(low, 0, 99) && in(high, 1, 100) && low != high);
      state(indexes[table][column][1] && lenses.size() < 4);
      if (low > high) {
        return refuse(-9);
      }
      lenses.add(new int[] {table, column, low, high});
      return lenses.size() - 1;
    }

    public int narrow(int lens, int low, int high) {
      bounds(in(lens, 0, lenses.size() - 1));
      argument(in(low, 0, 99) && in(high, 1, 100) && low != high);
      int[] was = lenses.get(lens);
      if (low > high || !in(low, was[2], was[3]) || !in(high, was[2], was[3])) {
        return refuse(-9);
      }
      was[2] = low;
      was[3] = high;
      return ofLens(lens, 2);
    }

    public int ofLens(int lens, int what) {
      bounds(in(lens, 0, lenses.size() - 1));
      argument(in(what, 0, 5));
      int[] of = lenses.get(lens);
      Map<Integer, Integer> seen = ordered(of[0], of[1]).subMap(of[2], of[3]);
      TreeMap<Integer, Integer> all = new TreeMap<>(seen);
      int set = 0;
      for (int rows : all.values()) {
        set |= rows;
      }
      return switch (what) {
        case 0 -> of[2];
        case 1 -> of[3];
        case 2 -> all.size();
        case 3 -> set;
        case 4 -> all.isEmpty() ? -1 : all.firstKey();
        default -> all.isEmpty() ? -1 : all.lastKey();
      };
    }

    public int sweep(int lens) {
      bounds(in(lens, 0, lenses.size() - 1));
      return take(lenses.get(lens)[0], ofLens(lens, 3));
    }

    public int shut() {
      int had = lenses.size();
      lenses.clear();
      return had;
    }

    // -- joins, groups, the cube

    private List<Integer> pairs(int table, int column, int toTable, int toColumn) {
      c(table, column);
      c(toTable, toColumn);
      List<Integer> all = new ArrayList<>();
      rows.get(table).forEach((one, a) -> rows.get(toTable).forEach((two, b) -> {
        if (a[column] >= 0 && a[column] == b[toColumn]) {
          all.add(32 * one + two);
        }
      }));
      return all;
    }

    public int join(int table, int column, int toTable, int toColumn, int way) {
      int many = pairs(table, column, toTable, toColumn).size();
      argument(in(way, 0, 2));
      return many;
    }

    public int pair(int table, int column, int toTable, int toColumn, int k) {
      List<Integer> all = pairs(table, column, toTable, toColumn);
      return in(k, 0, all.size() - 1) ? all.get(k) : -1;
    }

    private List<int[]> groupsOf(int table, int column) {
      List<int[]> all = new ArrayList<>();
      ordered(table, column).forEach((value, set) -> all.add(new int[] {value, set}));
      int nulls = fitting(table, (char) ('A' + column) + "!");
      if (nulls != 0) {
        all.add(new int[] {-1, nulls});
      }
      return all;
    }

    public int groups(int table, int column) {
      c(table, column);
      return groupsOf(table, column).size();
    }

    public int group(int table, int by, int of, int k, int what) {
      c(table, by);
      c(table, of);
      List<int[]> all = groupsOf(table, by);
      bounds(in(k, 0, all.size() - 1));
      argument(in(what, 0, 5));
      int[] group = all.get(k);
      TreeMap<Integer, int[]> members = new TreeMap<>(rows.get(table));
      members.keySet().removeIf(row -> (group[1] >> row & 1) == 0);
      int[] values = members.values().stream().mapToInt(row -> row[of]).filter(v -> v >= 0).toArray();
      return switch (what) {
        case 0 -> group[0];
        case 1 -> group[1];
        case 2 -> members.size();
        case 3 -> Arrays.stream(values).sum();
        case 4 -> Arrays.stream(values).min().orElse(-1);
        default -> Arrays.stream(values).max().orElse(-1);
      };
    }

    public int total(int table, int column, int what) {
      c(table, column);
      argument(in(what, 0, 4));
      int[] all = values(table, column).stream().mapToInt(v -> v).toArray();
      return switch (what) {
        case 0 -> Arrays.stream(all).sum();
        case 1 -> (int) Arrays.stream(all).distinct().count();
        case 2 -> Arrays.stream(all).min().orElse(-1);
        case 3 -> Arrays.stream(all).max().orElse(-1);
        default -> rows.get(table).size() - all.length;
      };
    }

    public int ranked(int table, int column, boolean isFalling, int k) {
      c(table, column);
      List<Integer> all = new ArrayList<>(rows.get(table).keySet());
      all.sort(Comparator.comparingInt(row -> {
        int value = rows.get(table).get(row)[column];
        return value < 0 ? 1000 : isFalling ? -value : value;
      }));
      return in(k, 0, all.size() - 1) ? all.get(k) : -1;
    }

    public int cellsBy(int set) {
      argument(in(set, 0, 7));
      int many = 0;
      for (List<Integer> key : cells().keySet()) {
        int has = 0;
        for (int place = 0; place < 3; place++) {
          has |= key.get(place) == -2 ? 0 : 1 << place;
        }
        many += has == set ? 1 : 0;
      }
      return many;
    }

    public int cell(int a, int b, int c) {
      argument(in(a, -2, 99) && in(b, -2, 99) && in(c, -2, 99));
      return cells().getOrDefault(List.of(a, b, c), 0);
    }

    public int anyOf(int a, int b, int c) {
      argument(in(a, -1, 99) && in(b, -1, 99) && in(c, -1, 99));
      return (int) rows.get(cubeOf[0]).values().stream()
          .filter(row -> row[cubeOf[1]] == a || row[cubeOf[2]] == b || row[cubeOf[3]] == c).count();
    }

    // -- what is asked

    public int get(int table, int row, int column) {
      r(table, row);
      c(table, column);
      return rows.get(table).get(row)[column];
    }

    public int ofTable(int table, int what) {
      t(table);
      argument(in(what, 0, 3));
      return switch (what) {
        case 0 -> rows.get(table).size();
        case 1 -> rows.get(table).keySet().stream().mapToInt(row -> 1 << row).sum();
        case 2 -> free(rows.get(table));
        default -> (int) answers.stream().filter(answer -> answer.table == table).count();
      };
    }

    public int ofColumn(int table, int column, int what) {
      c(table, column);
      argument(in(what, 0, 8));
      boolean[] has = indexes[table][column];
      Link link = links[table][column];
      return switch (what) {
        case 0 -> (has[0] ? 1 : 0) + (has[1] ? 2 : 0) + (has[2] ? 4 : 0);
        case 1 -> needed[table][column] ? 1 : 0;
        case 2 -> range[table][column][0];
        case 3 -> range[table][column][1];
        case 4 -> link == null ? -1 : link.kind;
        case 5 -> link == null ? -1 : 10 * link.toTable + link.toColumn;
        case 6 -> has[0] ? ordered(table, column).size() : 0;
        case 7 -> has[1] ? ordered(table, column).size() : 0;
        default -> has[2] ? endings(table, column).size() : 0;
      };
    }

    public int house(int what) {
      argument(in(what, 0, 9));
      return switch (what) {
        case 0 -> open.size();
        case 1 -> open.stream().mapToInt(then -> then.sum).sum();
        case 2 -> hits;
        case 3 -> misses;
        case 4 -> answers.size();
        case 5 -> takenOut;
        case 6 -> pushedOut;
        case 7 -> refused;
        case 8 -> lenses.size();
        default -> cells().size();
      };
    }

    public int knock() {
      return ++knocks;
    }

    public int stamp() {
      List<Integer> v = new ArrayList<>();
      for (int t = 0; t < 3; t++) {
        v.add(ofTable(t, 1));
        for (int[] row : rows.get(t).values()) {
          for (int value : row) {
            v.add(value);
          }
        }
        for (int c = 0; c < WIDTH[t]; c++) {
          for (int kind = 0; kind < 3; kind++) {
            if (!indexes[t][c][kind]) {
              continue;
            }
            if (kind == 2) {
              v.add(endings(t, c).size());
              continue;
            }
            for (Map.Entry<Integer, Integer> e : ordered(t, c).entrySet()) {
              v.add(e.getKey());
              v.add(kind == 0 ? Integer.numberOfTrailingZeros(e.getValue()) : e.getValue());
            }
            if (kind == 1) {
              v.add(fitting(t, (char) ('A' + c) + "!"));
            }
          }
        }
      }
      v.add(cells().size());
      for (int answer = 0; answer < answers.size(); answer++) {
        for (int what = 0; what < 4; what++) {
          v.add(kept(answer, what));
        }
      }
      int s = 4812;
      for (int each : v) {
        s = s * 31 + each;
      }
      return s;
    }

    public boolean isSound() {
      return true;
    }

    public long digest() {
      List<Integer> v = new ArrayList<>();
      v.add(stamp());
      for (int what = 0; what <= 9; what++) {
        v.add(house(what));
      }
      for (int t = 0; t < 3; t++) {
        for (int what = 0; what <= 3; what++) {
          v.add(ofTable(t, what));
        }
        v.add(breaks(t));
        if (breaks(t) == -1) {
          v.addAll(List.of(road(t, 0), cost(t), plan(t, 0)));
        }
        for (int c = 0; c < WIDTH[t]; c++) {
          for (int what = 0; what <= 8; what++) {
            v.add(ofColumn(t, c, what));
          }
          v.add(groups(t, c));
          for (int what = 0; what <= 4; what++) {
            v.add(total(t, c, what));
          }
        }
      }
      for (int lens = 0; lens < lenses.size(); lens++) {
        for (int what = 0; what <= 5; what++) {
          v.add(ofLens(lens, what));
        }
      }
      for (int set = 0; set <= 7; set++) {
        v.add(cellsBy(set));
      }
      v.add(text.length());
      v.add(1);
      long d = 48121;
      for (int each : v) {
        d = d * 31 + each;
      }
      return d;
    }
  }
}
