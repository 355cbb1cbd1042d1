import java.lang.reflect.Field;

/**
 * isSound() answers true in every run of calls, so only a house that is spoilt from outside can
 * show that it looks at all: each test here spoils one thing behind the face.
 */
public final class SoundnessTests {
  private static int wrong;

  public static void main(String[] args) throws ReflectiveOperationException {
    spoilsIndexes();
    spoilsCells();
    spoilsRules();
    spoilsAnswers();
    System.out.println(wrong == 0 ? "each spoilt house is seen" : wrong + " houses are not seen");
    System.exit(wrong == 0 ? 0 : 1);
  }

  private static void look(String what, boolean due, Tablehouse house) {
    long digest = house.digest();
    if (house.isSound() != due || house.digest() != digest) {
      wrong++;
      System.out.println(what + ": isSound() is not " + due);
    }
  }

  private static Object part(Tablehouse house, String name) throws ReflectiveOperationException {
    Field field = Tablehouse.class.getDeclaredField(name);
    field.setAccessible(true);
    return field.get(house);
  }

  private static Tablehouse furnished() {
    Tablehouse house = new Tablehouse();
    for (int kind = 0; kind <= 2; kind++) {
      house.index(1, 0, kind);
    }
    house.addFour(0, 1, 2, 3);
    house.addFour(47, 1, 2, 3);
    house.addFour(-1, 1, 2, 3);
    house.addSix(1, 2, 3, 4, 5, 6);
    house.addSix(1, 2, -1, 4, 5, 6);
    look("nothing", true, house);
    return house;
  }

  /** Column 0 of table 1. */
  private static Tablehouse.Column indexed(Tablehouse house) throws ReflectiveOperationException {
    return ((Tablehouse.Column[]) part(house, "columns"))[Tablehouse.Grid.FIRST[1]];
  }

  private static void spoilsIndexes() throws ReflectiveOperationException {
    for (int value : new int[] {0, 47, 99}) {
      Tablehouse house = furnished();
      indexed(house).rowOf[value] = 7;
      look("unique " + value, false, house);
      house = furnished();
      indexed(house).rowsOf[value] ^= 1 << 7;
      look("ordered " + value, false, house);
    }
    for (int table = 0; table <= 2; table++) {
      Tablehouse house = furnished();
      house.index(table, 0, 1);
      int place = Tablehouse.Grid.FIRST[table];
      ((Tablehouse.Column[]) part(house, "columns"))[place].rowsOf[5] ^= 1 << 7;
      look("ordered of table " + table, false, house);
    }
    Tablehouse house = furnished();
    indexed(house).rowsOf[47] = 0;
    look("ordered, one less", false, house);
    house = furnished();
    indexed(house).rowsOfNull = 0;
    look("ordered with NULL", false, house);
    for (int text : new int[] {2, Tablehouse.Words.word(47), Tablehouse.Words.TEXTS - 1}) {
      house = furnished();
      indexed(house).rowsOfText[text] ^= 1 << 7;
      look("word " + text, false, house);
    }
  }

  private static void spoilsCells() throws ReflectiveOperationException {
    for (int row = 0; row <= 1; row++) {
      Tablehouse house = furnished();
      Tablehouse.Cube counts = (Tablehouse.Cube) part(house, "counts");
      Tablehouse.Grid now = (Tablehouse.Grid) part(house, "now");
      counts.countOut(now, row);
      look("a row that no cell counts", false, house);
      counts.countIn(now, row);
      look("cells again", true, house);
      counts.countIn(now, row);
      look("a row that cells count twice", false, house);
    }
    Field field = Tablehouse.Cube.class.getDeclaredField("sizes");
    field.setAccessible(true);
    for (int place = 0; place < furnished().house(9); place++) {
      Tablehouse house = furnished();
      ((int[]) field.get(part(house, "counts")))[place]++;
      look("cell at " + place, false, house);
    }
    Tablehouse house = new Tablehouse();
    ((Tablehouse.Cube) part(house, "counts")).countIn((Tablehouse.Grid) part(house, "now"), 0);
    look("cells of no row", false, house);
  }

  private static void spoilsRules() throws ReflectiveOperationException {
    Tablehouse house = furnished();
    indexed(house).isNeeded = true;
    look("needed", false, house);
    house = furnished();
    indexed(house).low = 1;
    look("least of the range", false, house);
    house = furnished();
    indexed(house).high = 46;
    look("greatest of the range", false, house);
    house = furnished();
    indexed(house).linkTo = 0;
    look("link", false, house);
    house = furnished();
    Tablehouse.Grid now = (Tablehouse.Grid) part(house, "now");
    int twins = Tablehouse.Grid.FIRST[1] + 1;
    ((Tablehouse.Column[]) part(house, "columns"))[twins].build(0, now.rows[1], now.cells[twins]);
    look("twins", false, house);
  }

  private static void spoilsAnswers() throws ReflectiveOperationException {
    Tablehouse house = furnished();
    house.say(26, 10, 20, -1, -1, -1);
    house.ask(1);
    look("a right answer", true, house);
    Tablehouse.Line typed = (Tablehouse.Line) part(house, "typed");
    ((Tablehouse.Answers) part(house, "answers")).miss(0, typed, 1);
    look("a wrong answer", false, house);
    house = furnished();
    house.say(26, 15, 20, -1, -1, -1);
    typed = (Tablehouse.Line) part(house, "typed");
    ((Tablehouse.Answers) part(house, "answers")).miss(1, typed, 0);
    look("an answer that nobody can ask", false, house);
  }
}
