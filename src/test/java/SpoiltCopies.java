import java.lang.reflect.InvocationTargetException;
import java.util.Arrays;
import java.util.List;

/**
 * No call and no field spoils one ROAD, or one WAY of a join, alone. So here a copy of the class is
 * asked, in which each of them answers wrong for the one table or column that a property names.
 */
public final class SpoiltCopies extends Edge {
  private static final int WRONG = 1 << 30;
  private static final int[] FIRST = {0, 6, 10};
  private static final List<String> LINES = List.of("A!", "D!", "F!", "A", "");
  private static Class<?> copy;

  public static void main(String[] args) {
    copy = Compiled.from("Tablehouse", spoilable(Compiled.textOf("src/main/java/Tablehouse.java")), null);
    sentence("Promise 57", "LINE has for each TABLE for which it is RIGHT the same answer by all "
        + "ROADS", SpoiltCopies::comparesRoads);
    sentence("Promise 57", "its join with COLUMN 0 of TABLE 0 has as many PAIRS by all WAYS",
        SpoiltCopies::comparesWays);
    sentence("Promise 25", "by that ROAD", SpoiltCopies::takesThatRoad);
    sentence("Promise 42", "by that WAY", SpoiltCopies::takesThatWay);
    end(args);
  }

  private static String spoilable(String source) {
    String text = source;
    text = hook(text, "int rowByRow(int table) {", "\"road0\"", "table");
    text = hook(text, "int byConditions(int table, boolean isByIndex) {",
        "isByIndex ? \"road1\" : \"road2\"", "table");
    text = hook(text, "int byPlan(int table) {", "\"road3\"", "table");
    text = hook(text, "int pairsRowByRow(int place, int toPlace) {", "\"way0\"", "100 * place + toPlace");
    text = hook(text, "int pairsInOrder(int place, int toPlace) {", "\"way1\"", "100 * place + toPlace");
    return hook(text, "int pairsLookedUp(int place, int toPlace) {", "\"way2\"", "100 * place + toPlace");
  }

  private static String hook(String source, String head, String name, String spoilt) {
    if (source.split(java.util.regex.Pattern.quote(head), -1).length != 2) {
      fail("the class has not once the words " + head);
    }
    return source.replace(head, head + " if (Integer.getInteger(" + name + ", -1) == " + spoilt
        + ") { return " + WRONG + "; }");
  }

  private static Object call(Object house, String name, int... numbers) {
    Class<?>[] types = new Class<?>[numbers.length];
    Arrays.fill(types, int.class);
    try {
      return copy.getMethod(name, types).invoke(house, Arrays.stream(numbers).boxed().toArray());
    } catch (InvocationTargetException thrown) {
      return thrown.getCause().getClass();
    } catch (ReflectiveOperationException gone) {
      throw new IllegalStateException(gone);
    }
  }

  /** A few rows in each table, under no index. */
  private static Object house(String line) {
    try {
      Object house = copy.getConstructor().newInstance();
      for (int table = 0; table <= 2; table++) {
        call(house, "sow", table, 3, 5, 7);
      }
      call(house, "put", 0, 1, 0, -1);
      int[] codes = new int[6];
      Arrays.fill(codes, -1);
      for (int at = 0; at < line.length(); at++) {
        codes[at] = "0123456789ABCDEF=<>~!&|-()".indexOf(line.charAt(at));
      }
      call(house, "say", codes);
      same(true, call(house, "isSound"));
      return house;
    } catch (ReflectiveOperationException gone) {
      throw new IllegalStateException(gone);
    }
  }

  private static void spoil(String name, int number, Runnable test) {
    System.setProperty(name, Integer.toString(number));
    test.run();
    System.clearProperty(name);
  }

  private static void comparesRoads() {
    int[] rightFor = {3, 2, 1, 0, 0};
    for (int each = 0; each < LINES.size(); each++) {
      Object house = house(LINES.get(each));
      for (int table = 0; table <= 2; table++) {
        boolean due = table >= rightFor[each];
        for (int road = 0; road <= 3; road++) {
          spoil("road" + road, table, () -> same(due, call(house, "isSound")));
        }
      }
      same(true, call(house, "isSound"));
    }
  }

  private static void comparesWays() {
    Object house = house("");
    for (int place = 0; place < 13; place++) {
      for (int way = 0; way <= 2; way++) {
        spoil("way" + way, 100 * place, () -> same(false, call(house, "isSound")));
        // No other join is asked for.
        spoil("way" + way, 100 * place + 1, () -> same(true, call(house, "isSound")));
      }
    }
    same(true, call(house, "isSound"));
  }

  private static void takesThatRoad() {
    Object house = house("A!");
    for (int table = 0; table <= 2; table++) {
      int t = table;
      for (int spoilt = 0; spoilt <= 3; spoilt++) {
        int one = spoilt;
        spoil("road" + spoilt, table, () -> {
          for (int road = 0; road <= 3; road++) {
            same(road == one ? WRONG : t == 0 ? 2 : 0, call(house, "road", t, road));
          }
        });
      }
    }
  }

  private static void takesThatWay() {
    Object house = house("");
    for (int table = 0; table <= 2; table++) {
      int t = table;
      int last = WIDTH[table] - 1;
      for (int spoilt = 0; spoilt <= 2; spoilt++) {
        int one = spoilt;
        spoil("way" + spoilt, 100 * (FIRST[table] + last) + 6, () -> {
          for (int way = 0; way <= 2; way++) {
            same(way == one ? WRONG : t == 2 ? 1 : 0, call(house, "join", t, last, 1, 0, way));
            same(t == 0 ? 2 : 3, call(house, "join", t, 0, t, 0, way));
          }
        });
      }
    }
  }
}
