import java.lang.reflect.Field;

/**
 * isSound() answers true in every run of calls, so only a house that is spoilt from outside can
 * show that it looks at all: each test here spoils one thing behind the face.
 */
public final class SoundnessTests extends Edge {
  public static void main(String[] args) {
    sentence("Promise 57", "each index has what the ROWS say, and nothing else",
        SoundnessTests::spoilsIndexes);
    sentence("Promise 57", "each CELL counts what the ROWS say, and there is no other",
        SoundnessTests::spoilsCells);
    sentence("Promise 57", "all RULES hold", SoundnessTests::spoilsRules);
    sentence("Promise 57", "each kept ANSWER is what would be found now",
        SoundnessTests::spoilsAnswers);
    sentence("Promise 57", "LINE has for each TABLE for which it is RIGHT the same answer by all "
        + "ROADS", SoundnessTests::spoilsRoads);
    sentence("Promise 57", "for each COLUMN of each TABLE the GROUPS come to what the TABLE has in sum "
        + "and in how many ROWS", SoundnessTests::spoilsSums);
    sentence("Promise 58", "1 if isSound(), otherwise 0", SoundnessTests::tellsInDigest);
    end(args);
  }

  private static void look(boolean due, Tablehouse house) {
    long digest = house.digest();
    same(due, house.isSound());
    same(digest, house.digest());
  }

  private static Object part(Tablehouse house, String name) {
    return fieldOf(Tablehouse.class, house, name);
  }

  private static Object fieldOf(Class<?> type, Object object, String name) {
    try {
      Field field = type.getDeclaredField(name);
      field.setAccessible(true);
      return field.get(object);
    } catch (ReflectiveOperationException gone) {
      throw new IllegalStateException(gone);
    }
  }

  private static Tablehouse furnished() {
    Tablehouse house = new Tablehouse();
    for (int kind = 0; kind <= 2; kind++) {
      house.index(1, 0, kind);
    }
    house.addFour(0, 1, 2, 3);
    house.addFour(47, 1, 2, 3);
    house.addFour(-1, 1, 2, 3);
    house.addSix(1, 2, 3, 4, 5, 6);
    house.addSix(1, 2, -1, 4, 5, 6);
    look(true, house);
    return house;
  }

  private static Tablehouse.Column columnAt(Tablehouse house, int table, int column) {
    return ((Tablehouse.Column[]) part(house, "columns"))[Tablehouse.Grid.FIRST[table] + column];
  }

  private static Tablehouse.Column indexed(Tablehouse house) {
    return columnAt(house, 1, 0);
  }

  private static Tablehouse.Grid rowsOf(Tablehouse house) {
    return (Tablehouse.Grid) part(house, "now");
  }

  private static void spoilsIndexes() {
    for (int value : new int[] {0, 47, 99}) {
      Tablehouse house = furnished();
      indexed(house).rowOf[value] = 7;
      look(false, house);
      house = furnished();
      indexed(house).rowsOf[value] ^= 1 << 7;
      look(false, house);
    }
    for (int table = 0; table <= 2; table++) {
      for (int column = 0; column < WIDTH[table]; column++) {
        Tablehouse house = furnished();
        house.index(table, column, 1);
        columnAt(house, table, column).rowsOf[5] ^= 1 << 7;
        look(false, house);
      }
    }
    Tablehouse house = furnished();
    indexed(house).rowsOf[47] = 0;
    look(false, house);
    house = furnished();
    indexed(house).rowsOfNull = 0;
    look(false, house);
    for (int text : new int[] {2, Tablehouse.Words.word(47), Tablehouse.Words.TEXTS - 1}) {
      house = furnished();
      indexed(house).rowsOfText[text] ^= 1 << 7;
      look(false, house);
    }
  }

  private static void spoilsCells() {
    for (int row = 0; row <= 1; row++) {
      Tablehouse house = furnished();
      Tablehouse.Cube counts = (Tablehouse.Cube) part(house, "counts");
      counts.countOut(rowsOf(house), row);
      look(false, house);
      counts.countIn(rowsOf(house), row);
      look(true, house);
      counts.countIn(rowsOf(house), row);
      look(false, house);
    }
    for (int place = 0; place < furnished().house(9); place++) {
      Tablehouse house = furnished();
      Object counts = part(house, "counts");
      ((int[]) fieldOf(Tablehouse.Cube.class, counts, "sizes"))[place]++;
      look(false, house);
    }
    // Cells of no row, be it that they count one or none; then a row without any.
    Tablehouse house = new Tablehouse();
    Tablehouse.Cube counts = (Tablehouse.Cube) part(house, "counts");
    counts.countIn(rowsOf(house), 0);
    look(false, house);
    java.util.Arrays.fill((int[]) fieldOf(Tablehouse.Cube.class, counts, "sizes"), 0);
    look(false, house);
    house = new Tablehouse();
    house.addSix(1, 2, 3, 4, 5, 6);
    ((Tablehouse.Cube) part(house, "counts")).countOut(rowsOf(house), 0);
    look(false, house);
  }

  private static void spoilsRules() {
    Tablehouse house = furnished();
    indexed(house).isNeeded = true;
    look(false, house);
    house = furnished();
    indexed(house).low = 1;
    look(false, house);
    house = furnished();
    indexed(house).high = 46;
    look(false, house);
    house = furnished();
    indexed(house).linkTo = 0;
    look(false, house);
    house = furnished();
    int twins = Tablehouse.Grid.FIRST[1] + 1;
    Tablehouse.Grid now = rowsOf(house);
    columnAt(house, 1, 1).build(0, now.rows[1], now.cells[twins]);
    look(false, house);
  }

  private static void spoilsAnswers() {
    Tablehouse house = furnished();
    type(house, "A!").ask(1);
    look(true, house);
    Tablehouse.Line typed = (Tablehouse.Line) part(house, "typed");
    ((Tablehouse.Answers) part(house, "answers")).miss(0, typed, 1);
    look(false, house);
    house = type(furnished(), "F!");
    typed = (Tablehouse.Line) part(house, "typed");
    ((Tablehouse.Answers) part(house, "answers")).miss(1, typed, 0);
    look(false, house);
  }

  /** What spoils a road spoils an index or the rows as well, so this part is asked by itself. */
  private static boolean agree(Tablehouse house) {
    Tablehouse.Audit audit = (Tablehouse.Audit) part(house, "audit");
    Tablehouse.Line typed = (Tablehouse.Line) part(house, "typed");
    return audit.holdRoads(typed, (Tablehouse.Reader) part(house, "reader"));
  }

  private static void spoilsRoads() {
    Tablehouse house = type(furnished(), "A=47");
    same(true, agree(house));
    indexed(house).rowsOf[47] = 0;
    same(false, agree(house));
    // One row too many stands under 47: only by the indexes it fits.
    house = type(furnished(), "A=47");
    indexed(house).rowsOf[47] |= 1;
    same(false, agree(house));
    // A row under another VALUE than its own: only by what is CHOSEN it fits no more.
    house = type(furnished(), "A=47|A=46");
    indexed(house).rowsOf[46] = indexed(house).rowsOf[47];
    indexed(house).rowsOf[47] = 0;
    same(false, agree(house));
    // What no index of a table can answer is not touched; a line that is not right is not asked.
    same(true, agree(type(house, "B=1")));
    same(true, agree(type(house, "A=")));
    // A row that is none: by bits it fits, row by row it does not.
    for (int table = 0; table <= 2; table++) {
      house = type(furnished(), "B!");
      rowsOf(house).rows[table] |= 1 << 30;
      same(false, agree(house));
    }
    house = type(furnished(), "E!");
    rowsOf(house).rows[1] |= 1 << 30;
    same(true, agree(house));
  }

  private static void spoilsSums() {
    for (int table = 0; table <= 2; table++) {
      Tablehouse house = furnished();
      rowsOf(house).rows[table] |= 1 << 30;
      look(false, house);
      for (int column = 0; column < WIDTH[table]; column++) {
        // A number that is no VALUE is in no GROUP, though it has a rule's leave.
        house = new Tablehouse();
        house.cube((table + 1) % 3, 0, 1, 2);
        house.sow(table, 2, 0, 0);
        columnAt(house, table, column).high = 100;
        look(true, house);
        rowsOf(house).cells[Tablehouse.Grid.FIRST[table] + column][1] = 100;
        look(false, house);
      }
    }
  }

  private static void tellsInDigest() {
    Tablehouse house = furnished();
    long digest = house.digest();
    indexed(house).isNeeded = true;
    // Of ofColumn() 1 there are then 1 more, and of isSound(), the last one, 1 less.
    long asked = 1;
    for (int behind = 0; behind < placesBehind(house); behind++) {
      asked *= 31;
    }
    same(digest + asked - 1, house.digest());
  }

  /** How many numbers the digest takes up behind whether column 0 of table 1 is needed. */
  private static int placesBehind(Tablehouse house) {
    int ofColumn = 9 + 1 + 5;
    int ofTable = 4 + 1;
    same(0, house.house(8));
    same("", house.line());
    return 7 + 1 + 5 + 3 * ofColumn + ofTable + 3 * ofColumn + 8 + 1 + 1;
  }
}
