import java.util.Arrays;

/**
 * A house of three tables: rows under rules, indexes, a cube of counts, lenses, kept answers,
 * a typed line that several roads answer, and transactions that can be taken back.
 */
public final class Tablehouse {
  private static final int MOST_LENSES = 4;
  private static final int NOT_LET = -9;

  private final Grid now;
  private final Column[] columns;
  private final Cube counts;
  private final Line typed;
  private final Reader reader;
  private final Roads roads;
  private final Answers answers;
  private final Changes changes;
  private final Tally tally;
  private final Audit audit;
  private final int[] coming;
  private final int[] lensColumn;
  private final int[] lensLow;
  private final int[] lensHigh;
  private int lenses;
  private int refused;
  private int knocks;

  public Tablehouse() {
    now = new Grid();
    columns = new Column[Grid.COLUMNS];
    for (int each = 0; each < Grid.COLUMNS; each++) {
      columns[each] = new Column();
    }
    counts = new Cube();
    typed = new Line();
    reader = new Reader();
    roads = new Roads(now, columns, reader);
    answers = new Answers();
    changes = new Changes(now, columns, counts, answers);
    tally = new Tally(now);
    audit = new Audit(now, columns, counts, roads, tally, changes);
    coming = new int[6];
    lensColumn = new int[MOST_LENSES];
    lensLow = new int[MOST_LENSES];
    lensHigh = new int[MOST_LENSES];
  }

  // ---- rules, indexes and the cube

  public int index(int table, int column, int kind)
      throws IndexOutOfBoundsException, IllegalArgumentException, IllegalStateException {
    mustHaveColumn(table, column);
    mustBeWithin(kind, 0, 2);
    mustBeOutside();
    int place = Grid.FIRST[table] + column;
    if (columns[place].has(kind)) {
      return 0;
    }
    if (kind == Column.UNIQUE && now.hasTwins(place)) {
      return told(Changes.TWINS);
    }
    columns[place].build(kind, now.rows[table], now.cells[place]);
    return 1;
  }

  public boolean unindex(int table, int column, int kind)
      throws IndexOutOfBoundsException, IllegalArgumentException, IllegalStateException {
    mustHaveColumn(table, column);
    mustBeWithin(kind, 0, 2);
    mustBeOutside();
    int place = Grid.FIRST[table] + column;
    if (kind == Column.UNIQUE && isLedTo(place) || kind == Column.ORDERED && isLookedAt(place)) {
      throw new IllegalStateException("the index is in use");
    }
    boolean had = columns[place].has(kind);
    columns[place].remove(kind);
    return had;
  }

  public int need(int table, int column, boolean isNeeded)
      throws IndexOutOfBoundsException, IllegalStateException {
    mustHaveColumn(table, column);
    mustBeOutside();
    int place = Grid.FIRST[table] + column;
    if (isNeeded && now.nullRows(place) != 0) {
      return told(Changes.MISSING);
    }
    columns[place].isNeeded = isNeeded;
    return 1;
  }

  public int check(int table, int column, int low, int high)
      throws IndexOutOfBoundsException, IllegalArgumentException, IllegalStateException {
    mustHaveColumn(table, column);
    mustBeWithin(low, 0, Grid.MOST_VALUE);
    mustBeWithin(high, low, Grid.MOST_VALUE);
    mustBeOutside();
    int place = Grid.FIRST[table] + column;
    if (!now.isWithin(place, low, high)) {
      return told(Changes.OUTSIDE);
    }
    columns[place].low = low;
    columns[place].high = high;
    return 1;
  }

  public int link(int table, int column, int toTable, int toColumn, int kind)
      throws IndexOutOfBoundsException, IllegalArgumentException, IllegalStateException {
    mustHaveColumn(table, column);
    mustHaveColumn(toTable, toColumn);
    mustBeWithin(kind, 0, 2);
    mustBeOutside();
    int place = Grid.FIRST[table] + column;
    int toPlace = Grid.FIRST[toTable] + toColumn;
    if (columns[place].linkTo != Grid.NONE || !columns[toPlace].has(Column.UNIQUE)) {
      throw new IllegalStateException("there is a link already, or no unique index to lead to");
    }
    if (!now.isFound(place, toPlace)) {
      return told(Changes.LOST);
    }
    columns[place].linkTo = toPlace;
    columns[place].linkKind = kind;
    return 1;
  }

  public boolean unlink(int table, int column)
      throws IndexOutOfBoundsException, IllegalStateException {
    mustHaveColumn(table, column);
    mustBeOutside();
    Column linked = columns[Grid.FIRST[table] + column];
    boolean had = linked.linkTo != Grid.NONE;
    linked.linkTo = Grid.NONE;
    linked.linkKind = Grid.NONE;
    return had;
  }

  public int cube(int table, int one, int two, int three)
      throws IndexOutOfBoundsException, IllegalArgumentException, IllegalStateException {
    mustHaveColumn(table, one);
    mustHaveColumn(table, two);
    mustHaveColumn(table, three);
    if (one >= two || two >= three) {
      throw new IllegalArgumentException("the columns of the cube do not rise");
    }
    mustBeOutside();
    int first = Grid.FIRST[table];
    counts.tell(table, first + one, first + two, first + three);
    for (int row = 0; row < Grid.MOST_ROWS; row++) {
      if (now.hasRow(table, row)) {
        counts.countIn(now, row);
      }
    }
    return counts.many;
  }

  // ---- changes

  public int addSix(int a, int b, int c, int d, int e, int f)
      throws IllegalArgumentException, IllegalStateException {
    coming[3] = d;
    coming[4] = e;
    coming[5] = f;
    mustTakeRow(0, a, b, c);
    return told(changes.putIn(0, coming));
  }

  public int addFour(int a, int b, int c, int d)
      throws IllegalArgumentException, IllegalStateException {
    coming[3] = d;
    mustTakeRow(1, a, b, c);
    return told(changes.putIn(1, coming));
  }

  public int addThree(int a, int b, int c)
      throws IllegalArgumentException, IllegalStateException {
    mustTakeRow(2, a, b, c);
    return told(changes.putIn(2, coming));
  }

  /** What the wider tables have behind the third column stands in coming already. */
  private void mustTakeRow(int table, int a, int b, int c) {
    coming[0] = a;
    coming[1] = b;
    coming[2] = c;
    for (int column = 0; column < Grid.WIDTH[table]; column++) {
      mustBeWithin(coming[column], Grid.NONE, Grid.MOST_VALUE);
    }
    mustHaveRoom(table, 1);
  }

  public int sow(int table, int many, int from, int step)
      throws IndexOutOfBoundsException, IllegalArgumentException, IllegalStateException {
    mustHaveTable(table);
    mustBeWithin(many, 1, 12);
    mustBeWithin(from, 0, Grid.MOST_VALUE);
    mustBeWithin(step, 0, Grid.MOST_VALUE);
    mustHaveRoom(table, many);
    return told(changes.putInMany(table, many, from, step));
  }

  public int put(int table, int row, int column, int value)
      throws IndexOutOfBoundsException, IllegalArgumentException {
    mustHaveRow(table, row);
    mustHaveColumn(table, column);
    mustBeWithin(value, Grid.NONE, Grid.MOST_VALUE);
    return told(changes.give(table, 1 << row, Grid.FIRST[table] + column, value));
  }

  public int drop(int table, int row) throws IndexOutOfBoundsException {
    mustHaveRow(table, row);
    return told(changes.takeOut(table, 1 << row));
  }

  public int cut(int table) throws IndexOutOfBoundsException, IllegalStateException {
    mustHaveTable(table);
    mustBeRight(table);
    return told(changes.takeOut(table, roads.byPlan(table)));
  }

  public int alter(int table, int column, int value)
      throws IndexOutOfBoundsException, IllegalArgumentException, IllegalStateException {
    mustHaveColumn(table, column);
    mustBeWithin(value, Grid.NONE, Grid.MOST_VALUE);
    mustBeRight(table);
    return told(changes.give(table, roads.byPlan(table), Grid.FIRST[table] + column, value));
  }

  public int shift(int table, int column, int by)
      throws IndexOutOfBoundsException, IllegalArgumentException, IllegalStateException {
    mustHaveColumn(table, column);
    mustBeWithin(by, 0, Grid.MOST_VALUE);
    mustBeRight(table);
    return told(changes.raise(roads.byPlan(table), Grid.FIRST[table] + column, by));
  }

  // ---- transactions

  public int begin() throws IllegalStateException {
    if (changes.deep >= Changes.DEEPEST) {
      throw new IllegalStateException("three transactions are open");
    }
    changes.openOne();
    return changes.deep;
  }

  public int commit() throws IllegalStateException {
    mustBeInside();
    return changes.endForGood();
  }

  public int back() throws IllegalStateException {
    mustBeInside();
    return changes.endUndone();
  }

  // ---- the line and its answers

  public int say(int a, int b, int c, int d, int e, int f)
      throws IllegalArgumentException, IllegalStateException {
    coming[0] = a;
    coming[1] = b;
    coming[2] = c;
    coming[3] = d;
    coming[4] = e;
    coming[5] = f;
    for (int each = 0; each < coming.length; each++) {
      mustBeWithin(coming[each], Grid.NONE, Line.EMPTIES);
    }
    int length = typed.length;
    for (int each = 0; each < coming.length; each++) {
      length = Line.lengthBehind(length, coming[each]);
      if (length > Line.MOST_SIGNS) {
        throw new IllegalStateException("the line would be too long");
      }
    }
    for (int each = 0; each < coming.length; each++) {
      typed.type(coming[each]);
    }
    return typed.length;
  }

  public String line() {
    return typed.text();
  }

  public int breaks(int table) throws IndexOutOfBoundsException {
    mustHaveTable(table);
    return reader.read(typed, Grid.WIDTH[table]);
  }

  public int ask(int table) throws IndexOutOfBoundsException, IllegalStateException {
    mustHaveTable(table);
    mustBeRight(table);
    int found = answers.find(table, typed);
    if (found != Grid.NONE) {
      return answers.hit(found);
    }
    int set = roads.byPlan(table);
    answers.miss(table, typed, set);
    return set;
  }

  public int road(int table, int road)
      throws IndexOutOfBoundsException, IllegalArgumentException, IllegalStateException {
    mustHaveTable(table);
    mustBeWithin(road, 0, 3);
    mustBeRight(table);
    return roads.take(table, road);
  }

  public int plan(int table, int term) throws IndexOutOfBoundsException, IllegalStateException {
    mustHaveTable(table);
    mustBeRight(table);
    return roads.chosenNumber(table, term);
  }

  public int cost(int table) throws IndexOutOfBoundsException, IllegalStateException {
    mustHaveTable(table);
    mustBeRight(table);
    return roads.price(table);
  }

  public boolean isKept(int table) throws IndexOutOfBoundsException {
    mustHaveTable(table);
    return answers.find(table, typed) != Grid.NONE;
  }

  public int kept(int answer, int what)
      throws IndexOutOfBoundsException, IllegalArgumentException {
    mustHaveAnswer(answer);
    mustBeWithin(what, 0, 3);
    return answers.tell(answer, what);
  }

  public int scratch(int answer) throws IndexOutOfBoundsException {
    mustHaveAnswer(answer);
    return told(NOT_LET);
  }

  // ---- indexes and lenses

  public int edge(int table, int column, boolean isLast)
      throws IndexOutOfBoundsException, IllegalStateException {
    mustHaveColumn(table, column);
    mustHaveIndex(table, column, Column.ORDERED);
    Column asked = columns[Grid.FIRST[table] + column];
    int value = isLast ? asked.greatestIn(0, Grid.VALUES) : asked.leastIn(0, Grid.VALUES);
    return value == Grid.NONE ? told(NOT_LET) : value;
  }

  public int near(int table, int column, int value, int way)
      throws IndexOutOfBoundsException, IllegalArgumentException, IllegalStateException {
    mustHaveColumn(table, column);
    mustBeWithin(value, Grid.NONE, Grid.MOST_VALUE);
    mustBeWithin(way, 0, 3);
    mustHaveIndex(table, column, Column.ORDERED);
    if (value == Grid.NONE) {
      return told(NOT_LET);
    }
    Column asked = columns[Grid.FIRST[table] + column];
    switch (way) {
      case 0: return asked.greatestIn(0, value + 1);
      case 1: return asked.greatestIn(0, value);
      case 2: return asked.leastIn(value, Grid.VALUES);
      default: return asked.leastIn(value + 1, Grid.VALUES);
    }
  }

  public int under(int table, int column, int value)
      throws IndexOutOfBoundsException, IllegalArgumentException, IllegalStateException {
    mustHaveColumn(table, column);
    mustBeWithin(value, Grid.NONE, Grid.MOST_VALUE);
    mustHaveIndex(table, column, Column.ORDERED);
    if (value == Grid.NONE) {
      return told(NOT_LET);
    }
    return columns[Grid.FIRST[table] + column].rowsOf[value];
  }

  public int whose(int table, int column, int value)
      throws IndexOutOfBoundsException, IllegalArgumentException, IllegalStateException {
    mustHaveColumn(table, column);
    mustBeWithin(value, Grid.NONE, Grid.MOST_VALUE);
    mustHaveIndex(table, column, Column.UNIQUE);
    return value == Grid.NONE ? Grid.NONE : columns[Grid.FIRST[table] + column].rowOf[value];
  }

  public int spelled(int table, int column, int one, int two)
      throws IndexOutOfBoundsException, IllegalArgumentException, IllegalStateException {
    mustHaveColumn(table, column);
    mustBeWithin(one, 0, 9);
    mustBeWithin(two, Grid.NONE, 9);
    mustHaveIndex(table, column, Column.WORD);
    return columns[Grid.FIRST[table] + column].rowsSpelled(Words.pattern(one, two));
  }

  public String ending(int table, int column, int k)
      throws IndexOutOfBoundsException, IllegalStateException {
    mustHaveColumn(table, column);
    mustHaveIndex(table, column, Column.WORD);
    return Words.spell(columns[Grid.FIRST[table] + column].textAt(k));
  }

  public int lens(int table, int column, int low, int high)
      throws IndexOutOfBoundsException, IllegalArgumentException, IllegalStateException {
    mustHaveColumn(table, column);
    mustBeSpan(low, high);
    mustHaveIndex(table, column, Column.ORDERED);
    if (lenses >= MOST_LENSES) {
      throw new IllegalStateException("there are four lenses");
    }
    if (low > high) {
      return told(NOT_LET);
    }
    lensColumn[lenses] = Grid.FIRST[table] + column;
    lensLow[lenses] = low;
    lensHigh[lenses] = high;
    lenses++;
    return lenses - 1;
  }

  public int narrow(int lens, int low, int high)
      throws IndexOutOfBoundsException, IllegalArgumentException {
    mustHaveLens(lens);
    mustBeSpan(low, high);
    if (low > high || low < lensLow[lens] || high > lensHigh[lens]) {
      return told(NOT_LET);
    }
    lensLow[lens] = low;
    lensHigh[lens] = high;
    return columns[lensColumn[lens]].valuesIn(low, high);
  }

  public int ofLens(int lens, int what)
      throws IndexOutOfBoundsException, IllegalArgumentException {
    mustHaveLens(lens);
    mustBeWithin(what, 0, 5);
    Column seen = columns[lensColumn[lens]];
    int low = lensLow[lens];
    int high = lensHigh[lens];
    switch (what) {
      case 0: return low;
      case 1: return high;
      case 2: return seen.valuesIn(low, high);
      case 3: return seen.rowsIn(low, high);
      case 4: return seen.leastIn(low, high);
      default: return seen.greatestIn(low, high);
    }
  }

  public int sweep(int lens) throws IndexOutOfBoundsException {
    mustHaveLens(lens);
    int place = lensColumn[lens];
    int set = columns[place].rowsIn(lensLow[lens], lensHigh[lens]);
    return told(changes.takeOut(Grid.TABLE_OF[place], set));
  }

  public int shut() {
    int had = lenses;
    lenses = 0;
    return had;
  }

  // ---- joins, groups, the cube

  public int join(int table, int column, int toTable, int toColumn, int way)
      throws IndexOutOfBoundsException, IllegalArgumentException {
    mustHaveColumn(table, column);
    mustHaveColumn(toTable, toColumn);
    mustBeWithin(way, 0, 2);
    return tally.pairs(Grid.FIRST[table] + column, Grid.FIRST[toTable] + toColumn, way);
  }

  public int pair(int table, int column, int toTable, int toColumn, int k)
      throws IndexOutOfBoundsException {
    mustHaveColumn(table, column);
    mustHaveColumn(toTable, toColumn);
    return tally.pairAt(Grid.FIRST[table] + column, Grid.FIRST[toTable] + toColumn, k);
  }

  public int groups(int table, int column) throws IndexOutOfBoundsException {
    mustHaveColumn(table, column);
    return tally.manyGroups(Grid.FIRST[table] + column);
  }

  public int group(int table, int by, int of, int k, int what)
      throws IndexOutOfBoundsException, IllegalArgumentException {
    mustHaveColumn(table, by);
    mustHaveColumn(table, of);
    int value = tally.groupAt(Grid.FIRST[table] + by, k);
    if (value == Tally.NO_GROUP) {
      throw new IndexOutOfBoundsException("no such group");
    }
    mustBeWithin(what, 0, 5);
    int set = now.rowsWith(Grid.FIRST[table] + by, value);
    switch (what) {
      case 0: return value;
      case 1: return set;
      case 2: return Integer.bitCount(set);
      case 3: return now.sum(Grid.FIRST[table] + of, set);
      case 4: return now.least(Grid.FIRST[table] + of, set);
      default: return now.greatest(Grid.FIRST[table] + of, set);
    }
  }

  public int total(int table, int column, int what)
      throws IndexOutOfBoundsException, IllegalArgumentException {
    mustHaveColumn(table, column);
    mustBeWithin(what, 0, 4);
    int place = Grid.FIRST[table] + column;
    switch (what) {
      case 0: return now.sum(place, now.rows[table]);
      case 1: return tally.manyValues(place);
      case 2: return now.least(place, now.rows[table]);
      case 3: return now.greatest(place, now.rows[table]);
      default: return Integer.bitCount(now.nullRows(place));
    }
  }

  public int ranked(int table, int column, boolean isFalling, int k)
      throws IndexOutOfBoundsException {
    mustHaveColumn(table, column);
    return tally.rankedAt(Grid.FIRST[table] + column, isFalling, k);
  }

  public int cellsBy(int set) throws IllegalArgumentException {
    mustBeWithin(set, 0, 7);
    return counts.manyBy(set);
  }

  public int cell(int a, int b, int c) throws IllegalArgumentException {
    mustBeWithin(a, Cube.ANY, Grid.MOST_VALUE);
    mustBeWithin(b, Cube.ANY, Grid.MOST_VALUE);
    mustBeWithin(c, Cube.ANY, Grid.MOST_VALUE);
    return counts.of(a, b, c);
  }

  public int anyOf(int a, int b, int c) throws IllegalArgumentException {
    mustBeWithin(a, Grid.NONE, Grid.MOST_VALUE);
    mustBeWithin(b, Grid.NONE, Grid.MOST_VALUE);
    mustBeWithin(c, Grid.NONE, Grid.MOST_VALUE);
    int any = Cube.ANY;
    int single = counts.of(a, any, any) + counts.of(any, b, any) + counts.of(any, any, c);
    int twice = counts.of(a, b, any) + counts.of(a, any, c) + counts.of(any, b, c);
    return single - twice + counts.of(a, b, c);
  }

  // ---- what is asked

  public int get(int table, int row, int column) throws IndexOutOfBoundsException {
    mustHaveRow(table, row);
    mustHaveColumn(table, column);
    return now.cells[Grid.FIRST[table] + column][row];
  }

  public int ofTable(int table, int what)
      throws IndexOutOfBoundsException, IllegalArgumentException {
    mustHaveTable(table);
    mustBeWithin(what, 0, 3);
    switch (what) {
      case 0: return Integer.bitCount(now.rows[table]);
      case 1: return now.rows[table];
      case 2: return now.freeRow(table);
      default: return answers.manyOf(table);
    }
  }

  public int ofColumn(int table, int column, int what)
      throws IndexOutOfBoundsException, IllegalArgumentException {
    mustHaveColumn(table, column);
    mustBeWithin(what, 0, 8);
    Column asked = columns[Grid.FIRST[table] + column];
    switch (what) {
      case 0: return asked.kinds;
      case 1: return asked.isNeeded ? 1 : 0;
      case 2: return asked.low;
      case 3: return asked.high;
      case 4: return asked.linkKind;
      case 5: return asked.linkTo == Grid.NONE ? Grid.NONE : Grid.nameOf(asked.linkTo);
      case 6: return asked.manyUnique();
      case 7: return asked.has(Column.ORDERED) ? asked.valuesIn(0, Grid.VALUES) : 0;
      default: return asked.manyTexts();
    }
  }

  public int house(int what) throws IllegalArgumentException {
    mustBeWithin(what, 0, 9);
    switch (what) {
      case 0: return changes.deep;
      case 1: return changes.sizeOfAll();
      case 2: return answers.hits;
      case 3: return answers.misses;
      case 4: return answers.many;
      case 5: return answers.takenOut;
      case 6: return answers.pushedOut;
      case 7: return refused;
      case 8: return lenses;
      default: return counts.many;
    }
  }

  public int knock() {
    knocks++;
    return knocks;
  }

  public int stamp() {
    int s = audit.stampOfTables(4812);
    s = s * 31 + counts.many;
    for (int answer = 0; answer < answers.many; answer++) {
      for (int what = 0; what <= 3; what++) {
        s = s * 31 + answers.tell(answer, what);
      }
    }
    return s;
  }

  public boolean isSound() {
    return soundness() == 1;
  }

  private int soundness() {
    boolean holds = audit.holdIndexes() && audit.holdCells() && audit.holdRules()
        && audit.holdAnswers(answers, reader) && audit.holdRoads(typed, reader)
        && audit.holdSums();
    return holds ? 1 : 0;
  }

  public long digest() {
    long d = 48121L * 31 + stamp();
    for (int what = 0; what <= 9; what++) {
      d = d * 31 + house(what);
    }
    for (int table = 0; table < Grid.TABLES; table++) {
      d = digestOfTable(d, table);
    }
    for (int lens = 0; lens < lenses; lens++) {
      for (int what = 0; what <= 5; what++) {
        d = d * 31 + ofLens(lens, what);
      }
    }
    for (int set = 0; set <= 7; set++) {
      d = d * 31 + counts.manyBy(set);
    }
    d = d * 31 + typed.length;
    return d * 31 + soundness();
  }

  private long digestOfTable(long before, int table) {
    long d = before;
    for (int what = 0; what <= 3; what++) {
      d = d * 31 + ofTable(table, what);
    }
    int broken = reader.read(typed, Grid.WIDTH[table]);
    d = d * 31 + broken;
    if (broken == Grid.NONE) {
      d = d * 31 + roads.take(table, 0);
      d = d * 31 + roads.price(table);
      d = d * 31 + roads.chosenNumber(table, 0);
    }
    for (int column = 0; column < Grid.WIDTH[table]; column++) {
      for (int what = 0; what <= 8; what++) {
        d = d * 31 + ofColumn(table, column, what);
      }
      d = d * 31 + groups(table, column);
      for (int what = 0; what <= 4; what++) {
        d = d * 31 + total(table, column, what);
      }
    }
    return d;
  }

  // ---- what must hold before a call goes on

  private static boolean isTable(int table) {
    return table >= 0 && table < Grid.TABLES;
  }

  private static void mustHaveTable(int table) {
    if (!isTable(table)) {
      throw new IndexOutOfBoundsException("no such table");
    }
  }

  private static void mustHaveColumn(int table, int column) {
    if (!isTable(table) || column < 0 || column >= Grid.WIDTH[table]) {
      throw new IndexOutOfBoundsException("no such table or column");
    }
  }

  private void mustHaveRow(int table, int row) {
    if (!isTable(table) || row < 0 || row >= Grid.MOST_ROWS || !now.hasRow(table, row)) {
      throw new IndexOutOfBoundsException("no such table or row");
    }
  }

  private void mustHaveAnswer(int answer) {
    if (answer < 0 || answer >= answers.many) {
      throw new IndexOutOfBoundsException("no such answer");
    }
  }

  private void mustHaveLens(int lens) {
    if (lens < 0 || lens >= lenses) {
      throw new IndexOutOfBoundsException("no such lens");
    }
  }

  private static void mustBeWithin(int number, int least, int greatest) {
    if (number < least || number > greatest) {
      throw new IllegalArgumentException("a number is out of its range");
    }
  }

  private static void mustBeSpan(int low, int high) {
    if (low < 0 || low > Grid.MOST_VALUE || high < 1 || high > Grid.VALUES || high == low) {
      throw new IllegalArgumentException("this is no span of values");
    }
  }

  private void mustHaveIndex(int table, int column, int kind) {
    if (!columns[Grid.FIRST[table] + column].has(kind)) {
      throw new IllegalStateException("the column has no such index");
    }
  }

  private void mustHaveRoom(int table, int many) {
    if (Integer.bitCount(now.rows[table]) + many > Grid.MOST_ROWS) {
      throw new IllegalStateException("the table is full");
    }
  }

  private void mustBeRight(int table) {
    if (reader.read(typed, Grid.WIDTH[table]) != Grid.NONE) {
      throw new IllegalStateException("the line is not right for the table");
    }
  }

  private void mustBeOutside() {
    if (changes.deep > 0) {
      throw new IllegalStateException("a transaction is open");
    }
  }

  private void mustBeInside() {
    if (changes.deep == 0) {
      throw new IllegalStateException("no transaction is open");
    }
  }

  private boolean isLedTo(int place) {
    for (int each = 0; each < Grid.COLUMNS; each++) {
      if (columns[each].linkTo == place) {
        return true;
      }
    }
    return false;
  }

  private boolean isLookedAt(int place) {
    for (int each = 0; each < lenses; each++) {
      if (lensColumn[each] == place) {
        return true;
      }
    }
    return false;
  }

  /** Every answer that may be a fault or -9 goes through here, so that none is left uncounted. */
  private int told(int answer) {
    if (answer < Grid.NONE) {
      refused++;
    }
    return answer;
  }

  /**
   * Texts of "a" and "b" as numbers: a 1 in front, then a bit for each letter ("b" is 1).
   * So the numbers are nodes of a tree in which each text stands below its beginnings.
   */
  static final class Words {
    static final int TEXTS = 128;
    static final int EMPTY = 1;
    private static final int LONGEST = 6;
    private static final int[] SYLLABLES = {2, 3, 5, 6, 4, 7, 10, 13, 11, 12};
    /** Of each syllable the 1 in front, where it stands. */
    private static final int[] TOPS = {2, 2, 4, 4, 4, 4, 8, 8, 8, 8};

    static int word(int value) {
      int one = value % 10;
      return SYLLABLES[value / 10] * TOPS[one] + SYLLABLES[one] - TOPS[one];
    }

    /** The syllable of one digit, or of two; the second may be NONE. */
    static int pattern(int one, int two) {
      int first = SYLLABLES[one];
      return two == Grid.NONE ? first : first * TOPS[two] + SYLLABLES[two] - TOPS[two];
    }

    /** The 1 in front of a text's letters, where it stands. */
    static int topOf(int text) {
      int top = TEXTS / 2;
      while (top > text && top > EMPTY) {
        top >>= 1;
      }
      return top;
    }

    /** Cuts letters off behind until what is left ends with the part, or is too short for it. */
    static boolean contains(int text, int part) {
      int top = TEXTS / 2;
      while (top > part && top > EMPTY) {
        top >>= 1;
      }
      for (int left = text; left >= top && left > 0; left >>= 1) {
        if (((left ^ part) & (top - 1)) == 0) {
          return true;
        }
      }
      return false;
    }

    /** The text that a dictionary of all texts has behind this one. */
    static int following(int text) {
      if (text < TEXTS / 2) {
        return text * 2;
      }
      int left = text;
      for (int letter = 0; letter < LONGEST && (left & 1) == 1; letter++) {
        left >>= 1;
      }
      return left + 1;
    }

    static String spell(int text) {
      StringBuilder letters = new StringBuilder();
      for (int bit = topOf(text) >> 1; bit > 0; bit >>= 1) {
        letters.append((text & bit) == 0 ? 'a' : 'b');
      }
      return letters.toString();
    }
  }

  /** What stands in the rows of all tables; a column of a table has a place among all columns. */
  static final class Grid {
    static final int NONE = -1;
    static final int TABLES = 3;
    static final int COLUMNS = 13;
    static final int MOST_ROWS = 24;
    static final int MOST_VALUE = 99;
    static final int VALUES = 100;
    static final int[] WIDTH = {6, 4, 3};
    static final int[] FIRST = {0, 6, 10};
    static final int[] TABLE_OF = {0, 0, 0, 0, 0, 0, 1, 1, 1, 1, 2, 2, 2};

    final int[] rows = new int[TABLES];
    final int[][] cells = new int[COLUMNS][MOST_ROWS];

    static int nameOf(int place) {
      int table = TABLE_OF[place];
      return 10 * table + place - FIRST[table];
    }

    boolean hasRow(int table, int row) {
      return (rows[table] >> row & 1) == 1;
    }

    /** The least number that no row has; MOST_ROWS, if all are given. */
    int freeRow(int table) {
      int row = 0;
      while (row < MOST_ROWS && hasRow(table, row)) {
        row++;
      }
      return row;
    }

    void copyFrom(Grid other) {
      System.arraycopy(other.rows, 0, rows, 0, TABLES);
      for (int place = 0; place < COLUMNS; place++) {
        System.arraycopy(other.cells[place], 0, cells[place], 0, MOST_ROWS);
      }
    }

    boolean isSameRow(Grid other, int table, int row) {
      if (hasRow(table, row) != other.hasRow(table, row)) {
        return false;
      }
      return !hasRow(table, row) || changedColumns(other, table, row) == 0;
    }

    /** The set of columns in which a row that both have is not the same. */
    int changedColumns(Grid other, int table, int row) {
      int set = 0;
      for (int column = 0; column < WIDTH[table]; column++) {
        int place = FIRST[table] + column;
        if (cells[place][row] != other.cells[place][row]) {
          set |= 1 << column;
        }
      }
      return set;
    }

    /** The rows that have a value, or NULL, at a place. */
    int rowsWith(int place, int value) {
      int table = TABLE_OF[place];
      int set = 0;
      for (int row = 0; row < MOST_ROWS; row++) {
        if (hasRow(table, row) && cells[place][row] == value) {
          set |= 1 << row;
        }
      }
      return set;
    }

    int nullRows(int place) {
      return rowsWith(place, NONE);
    }

    boolean isWithin(int place, int low, int high) {
      int table = TABLE_OF[place];
      for (int row = 0; row < MOST_ROWS; row++) {
        int value = cells[place][row];
        if (hasRow(table, row) && value != NONE && (value < low || value > high)) {
          return false;
        }
      }
      return true;
    }

    boolean hasTwins(int place) {
      int table = TABLE_OF[place];
      for (int row = 0; row < MOST_ROWS; row++) {
        if (hasRow(table, row) && cells[place][row] != NONE
            && rowsWith(place, cells[place][row]) != 1 << row) {
          return true;
        }
      }
      return false;
    }

    /** The rows that have at a place a value which some of the given rows have at the other. */
    int rowsMeeting(int place, int toPlace, int toRows) {
      int set = 0;
      for (int row = 0; row < MOST_ROWS; row++) {
        if ((toRows >> row & 1) == 1 && cells[toPlace][row] != NONE) {
          set |= rowsWith(place, cells[toPlace][row]);
        }
      }
      return set;
    }

    /** Whether each value at a place is that of some row at the other. */
    boolean isFound(int place, int toPlace) {
      int table = TABLE_OF[place];
      for (int row = 0; row < MOST_ROWS; row++) {
        if (hasRow(table, row) && cells[place][row] != NONE
            && rowsWith(toPlace, cells[place][row]) == 0) {
          return false;
        }
      }
      return true;
    }

    int sum(int place, int set) {
      int sum = 0;
      for (int row = 0; row < MOST_ROWS; row++) {
        if ((set >> row & 1) == 1 && cells[place][row] != NONE) {
          sum += cells[place][row];
        }
      }
      return sum;
    }

    int least(int place, int set) {
      int least = NONE;
      for (int row = 0; row < MOST_ROWS; row++) {
        int value = cells[place][row];
        if ((set >> row & 1) == 1 && value != NONE && (least == NONE || value < least)) {
          least = value;
        }
      }
      return least;
    }

    int greatest(int place, int set) {
      int greatest = NONE;
      for (int row = 0; row < MOST_ROWS; row++) {
        if ((set >> row & 1) == 1) {
          greatest = Math.max(greatest, cells[place][row]);
        }
      }
      return greatest;
    }
  }

  /** The rules of one column and its indexes. */
  static final class Column {
    static final int UNIQUE = 0;
    static final int ORDERED = 1;
    static final int WORD = 2;

    int kinds;
    boolean isNeeded;
    int low = 0;
    int high = Grid.MOST_VALUE;
    int linkTo = Grid.NONE;
    int linkKind = Grid.NONE;
    final int[] rowOf = new int[Grid.VALUES];
    final int[] rowsOf = new int[Grid.VALUES];
    int rowsOfNull;
    final int[] rowsOfText = new int[Words.TEXTS];

    boolean has(int kind) {
      return (kinds >> kind & 1) == 1;
    }

    void remove(int kind) {
      kinds &= ~(1 << kind);
    }

    void build(int kind, int rows, int[] cells) {
      kinds |= 1 << kind;
      if (kind == UNIQUE) {
        Arrays.fill(rowOf, Grid.NONE);
      } else if (kind == ORDERED) {
        Arrays.fill(rowsOf, 0);
        rowsOfNull = 0;
      } else {
        Arrays.fill(rowsOfText, 0);
      }
      for (int row = 0; row < cells.length; row++) {
        if ((rows >> row & 1) == 1) {
          enter(1 << kind, row, cells[row]);
        }
      }
    }

    /** Enters a row in the indexes of a set of kinds. */
    void enter(int into, int row, int value) {
      int mark = 1 << row;
      if (value == Grid.NONE) {
        rowsOfNull |= (into >> ORDERED & 1) == 1 ? mark : 0;
        return;
      }
      if ((into >> UNIQUE & 1) == 1) {
        rowOf[value] = row;
      }
      if ((into >> ORDERED & 1) == 1) {
        rowsOf[value] |= mark;
      }
      if ((into >> WORD & 1) == 1) {
        int word = Words.word(value);
        for (int top = Words.TEXTS / 2; top > Words.EMPTY; top >>= 1) {
          rowsOfText[top | word & (top - 1)] |= top <= word ? mark : 0;
        }
      }
    }

    /** Takes a row out of all indexes. */
    void leave(int row, int value) {
      int mark = 1 << row;
      if (value == Grid.NONE) {
        rowsOfNull &= ~mark;
        return;
      }
      rowOf[value] = Grid.NONE;
      rowsOf[value] &= ~mark;
      if (has(WORD)) {
        int word = Words.word(value);
        for (int top = Words.TEXTS / 2; top > Words.EMPTY; top >>= 1) {
          rowsOfText[top | word & (top - 1)] &= top <= word ? ~mark : -1;
        }
      }
    }

    int manyUnique() {
      int many = 0;
      for (int value = 0; value < Grid.VALUES && has(UNIQUE); value++) {
        if (rowOf[value] != Grid.NONE) {
          many++;
        }
      }
      return many;
    }

    // Spans of values of the ordered index go from low on and below high.

    int valuesIn(int from, int to) {
      int many = 0;
      for (int value = from; value < to; value++) {
        if (rowsOf[value] != 0) {
          many++;
        }
      }
      return many;
    }

    int rowsIn(int from, int to) {
      int set = 0;
      for (int value = from; value < to; value++) {
        set |= rowsOf[value];
      }
      return set;
    }

    int leastIn(int from, int to) {
      for (int value = from; value < to; value++) {
        if (rowsOf[value] != 0) {
          return value;
        }
      }
      return Grid.NONE;
    }

    int greatestIn(int from, int to) {
      for (int value = to - 1; value >= from; value--) {
        if (rowsOf[value] != 0) {
          return value;
        }
      }
      return Grid.NONE;
    }

    int manyTexts() {
      int many = 0;
      for (int text = 0; text < Words.TEXTS && has(WORD); text++) {
        if (rowsOfText[text] != 0) {
          many++;
        }
      }
      return many;
    }

    /**
     * A word contains a part just where one of its endings begins with it; of each length the
     * texts that begin with the part stand in a row, twice as many as of the length before.
     */
    int rowsSpelled(int part) {
      int set = 0;
      int from = part;
      for (int many = 1; many < Words.TEXTS && from < Words.TEXTS; many *= 2) {
        for (int text = from; text < from + many && text < Words.TEXTS; text++) {
          set |= rowsOfText[text];
        }
        from *= 2;
      }
      return set;
    }

    /** The k-th text of the word index, or the empty one. */
    int textAt(int k) {
      int before = 0;
      int text = Words.following(Words.EMPTY);
      for (int each = 2; each < Words.TEXTS; each++) {
        if (rowsOfText[text] != 0) {
          if (before == k) {
            return text;
          }
          before++;
        }
        text = Words.following(text);
      }
      return Words.EMPTY;
    }
  }

  /** Counts of rows by what they have at three places, each of which may be left open (ANY). */
  static final class Cube {
    static final int ANY = -2;
    private static final int SETS = 8;
    private static final int FIRST = 127 << 14;
    private static final int SECOND = 127 << 7;
    private static final int THIRD = 127;
    /** Of each set of places the parts of a key that these have. */
    private static final int[] MASKS = {
      0, FIRST, SECOND, FIRST | SECOND, THIRD, FIRST | THIRD, SECOND | THIRD,
      FIRST | SECOND | THIRD
    };

    int table = 0;
    private int one = 0;
    private int two = 1;
    private int three = 2;
    int many;
    private final int[] keys = new int[SETS * Grid.MOST_ROWS];
    private final int[] sizes = new int[SETS * Grid.MOST_ROWS];

    void tell(int newTable, int newOne, int newTwo, int newThree) {
      table = newTable;
      one = newOne;
      two = newTwo;
      three = newThree;
      many = 0;
    }

    /** The key of the cell that leaves nothing open; what is ANY has 0 in its part of a key. */
    private int keyOfRow(Grid grid, int row) {
      int first = grid.cells[one][row] - ANY;
      int second = grid.cells[two][row] - ANY;
      return first << 14 | second << 7 | grid.cells[three][row] - ANY;
    }

    /** The parts of a key that are not ANY, as they stand in MASKS. */
    private static int setOf(int key) {
      int first = (key & FIRST) == 0 ? 0 : 1;
      int second = (key & SECOND) == 0 ? 0 : 2;
      int third = (key & THIRD) == 0 ? 0 : 4;
      return first | second | third;
    }

    private int placeOf(int key) {
      for (int place = 0; place < many; place++) {
        if (keys[place] == key) {
          return place;
        }
      }
      return Grid.NONE;
    }

    void countIn(Grid grid, int row) {
      int whole = keyOfRow(grid, row);
      for (int set = 0; set < SETS; set++) {
        int key = whole & MASKS[set];
        int place = placeOf(key);
        if (place != Grid.NONE) {
          sizes[place]++;
        } else if (many < keys.length) {
          keys[many] = key;
          sizes[many] = 1;
          many++;
        }
      }
    }

    void countOut(Grid grid, int row) {
      int whole = keyOfRow(grid, row);
      for (int set = 0; set < SETS; set++) {
        int place = placeOf(whole & MASKS[set]);
        if (place != Grid.NONE) {
          sizes[place]--;
          if (sizes[place] == 0) {
            many--;
            keys[place] = keys[many];
            sizes[place] = sizes[many];
          }
        }
      }
    }

    int of(int a, int b, int c) {
      int place = placeOf((a - ANY) << 14 | (b - ANY) << 7 | c - ANY);
      return place == Grid.NONE ? 0 : sizes[place];
    }

    int manyBy(int set) {
      int found = 0;
      for (int place = 0; place < many; place++) {
        if (setOf(keys[place]) == set) {
          found++;
        }
      }
      return found;
    }

    /** If each cell counts the rows that fit it, and all rows find theirs, there is no other. */
    boolean isOf(Grid grid) {
      for (int place = 0; place < many; place++) {
        int mask = MASKS[setOf(keys[place])];
        int fitting = 0;
        for (int row = 0; row < Grid.MOST_ROWS; row++) {
          if (grid.hasRow(table, row) && (keyOfRow(grid, row) & mask) == keys[place]) {
            fitting++;
          }
        }
        if (fitting == 0 || fitting != sizes[place]) {
          return false;
        }
      }
      for (int row = 0; row < Grid.MOST_ROWS; row++) {
        for (int set = 0; set < SETS; set++) {
          if (grid.hasRow(table, row) && placeOf(keyOfRow(grid, row) & MASKS[set]) == Grid.NONE) {
            return false;
          }
        }
      }
      return true;
    }
  }

  /** A text of signs, each by its code. */
  static final class Line {
    static final int MOST_SIGNS = 40;
    static final int EMPTIES = 26;
    static final int LETTER = 10;
    static final int EQUAL = 16;
    static final int LESS = 17;
    static final int GREATER = 18;
    static final int SOUNDS = 19;
    static final int LACKS = 20;
    static final int BOTH = 21;
    static final int EITHER = 22;
    static final int DASH = 23;
    static final int OPEN = 24;
    static final int CLOSE = 25;
    private static final char[] SIGNS = {
      '0', '1', '2', '3', '4', '5', '6', '7', '8', '9', 'A', 'B', 'C', 'D', 'E', 'F',
      '=', '<', '>', '~', '!', '&', '|', '-', '(', ')'
    };

    final int[] codes = new int[MOST_SIGNS];
    int length;

    static int lengthBehind(int length, int code) {
      if (code == EMPTIES) {
        return 0;
      }
      return code == Grid.NONE ? length : length + 1;
    }

    void type(int code) {
      if (code >= 0 && code < EMPTIES && length < MOST_SIGNS) {
        codes[length] = code;
      }
      length = Math.min(lengthBehind(length, code), MOST_SIGNS);
    }

    void copyFrom(Line other) {
      System.arraycopy(other.codes, 0, codes, 0, MOST_SIGNS);
      length = other.length;
    }

    boolean isSame(Line other) {
      if (length != other.length) {
        return false;
      }
      for (int at = 0; at < length; at++) {
        if (codes[at] != other.codes[at]) {
          return false;
        }
      }
      return true;
    }

    /** The set of columns whose letters it has. */
    int letters() {
      int set = 0;
      for (int at = 0; at < length; at++) {
        if (codes[at] >= LETTER && codes[at] < EQUAL) {
          set |= 1 << codes[at] - LETTER;
        }
      }
      return set;
    }

    String text() {
      StringBuilder signs = new StringBuilder();
      for (int at = 0; at < length; at++) {
        signs.append(SIGNS[codes[at]]);
      }
      return signs.toString();
    }
  }

  /**
   * Reads a line for a table sign by sign and never goes back, so that where it stops is BREAK.
   * What it has read stands here as code, in which each word stands behind what it binds.
   */
  static final class Reader {
    static final int NOT = -1;
    static final int AND = -2;
    static final int OR = -3;
    private static final int DEEPEST = 2;
    private static final int ROOM = Line.MOST_SIGNS + 1;

    private final Line text = new Line();
    private int width;
    private int at;
    /** The code of the sign at which the reader is; NONE behind the last. */
    private int here;
    final int[] code = new int[ROOM];
    int codeEnd;
    final int[] sign = new int[ROOM];
    final int[] column = new int[ROOM];
    final int[] number = new int[ROOM];
    final int[] other = new int[ROOM];
    private int conditions;
    final int[] termStart = new int[ROOM];
    final int[] termEnd = new int[ROOM];
    final int[] termFact = new int[ROOM + 1];
    int terms;
    final int[] factCondition = new int[ROOM];
    private int facts;

    /** NONE, if the line is right for a table so wide, otherwise BREAK. */
    int read(Line line, int newWidth) {
      text.copyFrom(line);
      width = newWidth;
      at = 0;
      here = text.length > 0 ? text.codes[0] : Grid.NONE;
      codeEnd = 0;
      conditions = 0;
      terms = 0;
      facts = 0;
      boolean isWhole = readSentence(0) && at == text.length;
      return isWhole ? Grid.NONE : at;
    }

    private void step() {
      at++;
      here = at < text.length ? text.codes[at] : Grid.NONE;
    }

    private boolean isLetter() {
      return here >= Line.LETTER && here < Line.LETTER + width;
    }

    private boolean isDigit() {
      return here >= 0 && here < Line.LETTER;
    }

    private void emit(int word) {
      if (codeEnd < code.length) {
        code[codeEnd] = word;
        codeEnd++;
      }
    }

    private boolean readSentence(int depth) {
      for (int term = 0; term < ROOM; term++) {
        if (depth == 0) {
          termStart[term] = codeEnd;
          termFact[term] = facts;
        }
        if (!readTerm(depth)) {
          return false;
        }
        if (depth == 0) {
          terms = term + 1;
          termEnd[term] = codeEnd;
          termFact[terms] = facts;
        }
        if (term > 0) {
          emit(OR);
        }
        if (here != Line.EITHER) {
          return true;
        }
        step();
      }
      return false;
    }

    private boolean readTerm(int depth) {
      for (int fact = 0; fact < ROOM; fact++) {
        if (!readFact(depth)) {
          return false;
        }
        if (fact > 0) {
          emit(AND);
        }
        if (here != Line.BOTH) {
          return true;
        }
        step();
      }
      return false;
    }

    private boolean readFact(int depth) {
      int dashes = 0;
      while (here == Line.DASH && dashes < ROOM) {
        dashes++;
        step();
      }
      int condition = Grid.NONE;
      if (here == Line.OPEN && depth < DEEPEST) {
        step();
        if (!readSentence(depth + 1) || here != Line.CLOSE) {
          return false;
        }
        step();
      } else {
        condition = readCondition();
        if (condition == Grid.NONE) {
          return false;
        }
      }
      if (dashes % 2 == 1) {
        emit(NOT);
      }
      if (depth == 0 && facts < ROOM) {
        boolean isPlain = condition != Grid.NONE && dashes == 0 && other[condition] == Grid.NONE;
        factCondition[facts] = isPlain ? condition : Grid.NONE;
        facts++;
      }
      return true;
    }

    /** The number of the condition that stands here; NONE, if it breaks. */
    private int readCondition() {
      if (!isLetter() || conditions >= ROOM) {
        return Grid.NONE;
      }
      column[conditions] = here - Line.LETTER;
      other[conditions] = Grid.NONE;
      step();
      if (here < Line.EQUAL || here > Line.LACKS) {
        return Grid.NONE;
      }
      sign[conditions] = here;
      step();
      if (sign[conditions] != Line.LACKS && !readOperand(sign[conditions] == Line.SOUNDS)) {
        return Grid.NONE;
      }
      emit(conditions);
      conditions++;
      return conditions - 1;
    }

    private boolean readOperand(boolean isPattern) {
      if (!isPattern && isLetter()) {
        other[conditions] = here - Line.LETTER;
        step();
        return true;
      }
      if (!isDigit()) {
        return false;
      }
      int one = here;
      int two = Grid.NONE;
      step();
      if (isDigit()) {
        two = here;
        step();
      }
      if (isPattern) {
        number[conditions] = Words.pattern(one, two);
      } else {
        number[conditions] = two == Grid.NONE ? one : 10 * one + two;
      }
      return true;
    }
  }

  /** The roads from what the reader has read last to the set of rows that fit it. */
  static final class Roads {
    private static final int PLANES = 7;

    private final Grid now;
    private final Column[] columns;
    private final Reader reader;
    private final int[] stack = new int[Line.MOST_SIGNS + 1];
    /** Of each term the fact that is chosen, or NONE. */
    private final int[] chosen = new int[Line.MOST_SIGNS + 1];
    private final int[] planes = new int[PLANES];
    private final int[] otherPlanes = new int[PLANES];

    Roads(Grid now, Column[] columns, Reader reader) {
      this.now = now;
      this.columns = columns;
      this.reader = reader;
    }

    int take(int table, int road) {
      switch (road) {
        case 0: return rowByRow(table);
        case 1: return byConditions(table, true);
        case 2: return byConditions(table, false);
        default: return byPlan(table);
      }
    }

    int rowByRow(int table) {
      return sift(table, 0, reader.codeEnd, now.rows[table]);
    }

    int byPlan(int table) {
      if (choose(table) >= Integer.bitCount(now.rows[table])) {
        return sift(table, 0, reader.codeEnd, now.rows[table]);
      }
      int set = 0;
      for (int term = 0; term < reader.terms; term++) {
        if (chosen[term] != Grid.NONE) {
          int found = byIndex(table, reader.factCondition[chosen[term]]);
          set |= sift(table, reader.termStart[term], reader.termEnd[term], found);
        }
      }
      return set;
    }

    /** Looks at the given rows one by one; keeps those that a part of the code fits. */
    private int sift(int table, int from, int to, int rows) {
      int set = 0;
      for (int row = 0; row < Grid.MOST_ROWS; row++) {
        if ((rows >> row & 1) == 1) {
          int top = 0;
          for (int at = from; at < to; at++) {
            int word = reader.code[at];
            if (word < 0) {
              top = bind(word, top, 1);
            } else if (top < stack.length) {
              stack[top] = isFitting(table, word, row) ? 1 : 0;
              top++;
            }
          }
          set |= top > 0 ? stack[0] << row : 0;
        }
      }
      return set;
    }

    /** Takes what each condition fits as a whole, by indexes where they serve or by bits. */
    int byConditions(int table, boolean isByIndex) {
      int rows = now.rows[table];
      int top = 0;
      for (int at = 0; at < reader.codeEnd; at++) {
        int word = reader.code[at];
        if (word < 0) {
          top = bind(word, top, rows);
        } else if (top < stack.length) {
          if (!isByIndex) {
            stack[top] = byBits(table, word);
          } else {
            stack[top] = isServed(table, word) ? byIndex(table, word) : byLooking(table, word);
          }
          top++;
        }
      }
      return top > 0 ? stack[0] : 0;
    }

    /** Binds what stands on the stack; "-" turns it round within the whole. */
    private int bind(int word, int top, int whole) {
      if (word == Reader.NOT) {
        if (top > 0) {
          stack[top - 1] = whole & ~stack[top - 1];
        }
        return top;
      }
      if (top < 2) {
        return top;
      }
      if (word == Reader.AND) {
        stack[top - 2] &= stack[top - 1];
      } else {
        stack[top - 2] |= stack[top - 1];
      }
      return top - 1;
    }

    int price(int table) {
      return Math.min(choose(table), Integer.bitCount(now.rows[table]));
    }

    int chosenNumber(int table, int term) {
      if (term < 0 || term >= reader.terms) {
        return Grid.NONE;
      }
      choose(table);
      return chosen[term] == Grid.NONE ? Grid.NONE : chosen[term] - reader.termFact[term];
    }

    /** The sum of the reads; a term that has nothing to choose counts as many as rows may be. */
    private int choose(int table) {
      int sum = 0;
      for (int term = 0; term < reader.terms; term++) {
        int fewest = Grid.MOST_ROWS;
        chosen[term] = Grid.NONE;
        for (int fact = reader.termFact[term]; fact < reader.termFact[term + 1]; fact++) {
          int condition = reader.factCondition[fact];
          if (condition != Grid.NONE && isServed(table, condition)) {
            int reads = Integer.bitCount(byIndex(table, condition));
            if (chosen[term] == Grid.NONE || reads < fewest) {
              chosen[term] = fact;
              fewest = reads;
            }
          }
        }
        sum += fewest;
      }
      return sum;
    }

    private boolean isServed(int table, int condition) {
      Column column = columns[Grid.FIRST[table] + reader.column[condition]];
      if (reader.other[condition] != Grid.NONE) {
        return false;
      }
      switch (reader.sign[condition]) {
        case Line.SOUNDS: return column.has(Column.WORD);
        case Line.EQUAL: return column.has(Column.ORDERED) || column.has(Column.UNIQUE);
        default: return column.has(Column.ORDERED);
      }
    }

    private int byLooking(int table, int condition) {
      int set = 0;
      for (int row = 0; row < Grid.MOST_ROWS; row++) {
        if (now.hasRow(table, row) && isFitting(table, condition, row)) {
          set |= 1 << row;
        }
      }
      return set;
    }

    private boolean isFitting(int table, int condition, int row) {
      int first = Grid.FIRST[table];
      int sign = reader.sign[condition];
      int value = now.cells[first + reader.column[condition]][row];
      if (sign == Line.LACKS || value == Grid.NONE) {
        return sign == Line.LACKS && value == Grid.NONE;
      }
      int beside = reader.number[condition];
      if (sign == Line.SOUNDS) {
        return Words.contains(Words.word(value), beside);
      }
      if (reader.other[condition] != Grid.NONE) {
        beside = now.cells[first + reader.other[condition]][row];
        if (beside == Grid.NONE) {
          return false;
        }
      }
      switch (sign) {
        case Line.LESS: return value < beside;
        case Line.GREATER: return value > beside;
        default: return value == beside;
      }
    }

    /** Only for a condition that an index serves. */
    private int byIndex(int table, int condition) {
      Column column = columns[Grid.FIRST[table] + reader.column[condition]];
      int number = reader.number[condition];
      switch (reader.sign[condition]) {
        case Line.LACKS: return column.rowsOfNull;
        case Line.SOUNDS: return column.rowsSpelled(number);
        case Line.LESS: return column.rowsIn(0, number);
        case Line.GREATER: return column.rowsIn(number + 1, Grid.VALUES);
        default: break;
      }
      if (column.has(Column.ORDERED)) {
        return column.rowsOf[number];
      }
      return column.rowOf[number] == Grid.NONE ? 0 : 1 << column.rowOf[number];
    }

    /** Plane k is the set of rows whose value has bit k; the rows with values come back. */
    private int slice(int place, int rows, int[] into) {
      int valued = 0;
      Arrays.fill(into, 0);
      for (int row = 0; row < Grid.MOST_ROWS; row++) {
        int value = now.cells[place][row];
        if ((rows >> row & 1) == 1 && value != Grid.NONE) {
          valued |= 1 << row;
          for (int bit = 0; bit < PLANES; bit++) {
            into[bit] |= (value >> bit & 1) << row;
          }
        }
      }
      return valued;
    }

    private int byBits(int table, int condition) {
      int first = Grid.FIRST[table];
      int rows = now.rows[table];
      int valued = slice(first + reader.column[condition], rows, planes);
      int sign = reader.sign[condition];
      if (sign == Line.LACKS) {
        return rows & ~valued;
      }
      if (sign == Line.SOUNDS) {
        return soundingByBits(valued, reader.number[condition]);
      }
      if (reader.other[condition] != Grid.NONE) {
        valued &= slice(first + reader.other[condition], rows, otherPlanes);
      } else {
        spread(reader.number[condition]);
      }
      return compareByBits(valued, sign);
    }

    /** The same number for all rows, as planes. */
    private void spread(int number) {
      for (int bit = 0; bit < PLANES; bit++) {
        otherPlanes[bit] = (number >> bit & 1) == 1 ? -1 : 0;
      }
    }

    private int compareByBits(int valued, int sign) {
      int equal = valued;
      int less = 0;
      for (int bit = PLANES - 1; bit >= 0; bit--) {
        less |= equal & ~planes[bit] & otherPlanes[bit];
        equal &= ~(planes[bit] ^ otherPlanes[bit]);
      }
      switch (sign) {
        case Line.LESS: return less;
        case Line.GREATER: return valued & ~less & ~equal;
        default: return equal;
      }
    }

    private int soundingByBits(int valued, int part) {
      int set = 0;
      for (int value = 0; value < Grid.VALUES; value++) {
        if (Words.contains(Words.word(value), part)) {
          spread(value);
          set |= compareByBits(valued, Line.EQUAL);
        }
      }
      return set;
    }
  }

  /** The kept answers, the eldest first, and what was counted with them. */
  static final class Answers {
    private static final int MOST = 5;

    int many;
    int hits;
    int misses;
    int takenOut;
    int pushedOut;
    private final int[] tables = new int[MOST];
    private final int[] sets = new int[MOST];
    private final Line[] texts = new Line[MOST];

    Answers() {
      for (int each = 0; each < MOST; each++) {
        texts[each] = new Line();
      }
    }

    /** What is counted stays as it is. */
    void copyFrom(Answers other) {
      many = other.many;
      for (int each = 0; each < many; each++) {
        tables[each] = other.tables[each];
        sets[each] = other.sets[each];
        texts[each].copyFrom(other.texts[each]);
      }
    }

    int find(int table, Line text) {
      for (int each = 0; each < many; each++) {
        if (tables[each] == table && texts[each].isSame(text)) {
          return each;
        }
      }
      return Grid.NONE;
    }

    /** Puts one behind all others, which move up. */
    private void moveLast(int answer) {
      int table = tables[answer];
      int set = sets[answer];
      Line text = texts[answer];
      for (int each = answer; each < many - 1; each++) {
        tables[each] = tables[each + 1];
        sets[each] = sets[each + 1];
        texts[each] = texts[each + 1];
      }
      tables[many - 1] = table;
      sets[many - 1] = set;
      texts[many - 1] = text;
    }

    int hit(int answer) {
      hits++;
      moveLast(answer);
      return sets[many - 1];
    }

    void miss(int table, Line text, int set) {
      misses++;
      if (many == MOST) {
        pushedOut++;
        moveLast(0);
        many--;
      }
      tables[many] = table;
      sets[many] = set;
      texts[many].copyFrom(text);
      many++;
    }

    /** Takes out those of tables in the set, and those that name a column of the changed ones. */
    void takeOut(int movedTables, int[] changedColumns) {
      for (int each = many - 1; each >= 0; each--) {
        int table = tables[each];
        if ((movedTables >> table & 1) == 1
            || (texts[each].letters() & changedColumns[table]) != 0) {
          moveLast(each);
          many--;
          takenOut++;
        }
      }
    }

    int manyOf(int table) {
      int found = 0;
      for (int each = 0; each < many; each++) {
        if (tables[each] == table) {
          found++;
        }
      }
      return found;
    }

    int tell(int answer, int what) {
      switch (what) {
        case 0: return tables[answer];
        case 1: return sets[answer];
        case 2: return texts[answer].letters();
        default: return texts[answer].length;
      }
    }

    Line textOf(int answer) {
      return texts[answer];
    }
  }

  /** Makes changes: what there would be behind one is written down first, and looked at. */
  static final class Changes {
    static final int MISSING = -2;
    static final int OUTSIDE = -3;
    static final int TWINS = -4;
    static final int LOST = -5;
    static final int DEEPEST = 3;
    private static final int FALLS = 1;
    private static final int LETS_GO = 2;

    private final Grid now;
    private final Column[] columns;
    private final Cube counts;
    private final Answers answers;
    private final Grid next = new Grid();
    private final int[] gone = new int[Grid.TABLES];
    private final int[] changedColumns = new int[Grid.TABLES];
    int deep;
    private final int[] sizes = new int[DEEPEST];
    private final Grid[] grids = new Grid[DEEPEST];
    private final Answers[] keptThen = new Answers[DEEPEST];

    Changes(Grid now, Column[] columns, Cube counts, Answers answers) {
      this.now = now;
      this.columns = columns;
      this.counts = counts;
      this.answers = answers;
      for (int each = 0; each < DEEPEST; each++) {
        grids[each] = new Grid();
        keptThen[each] = new Answers();
      }
    }

    int putIn(int table, int[] values) {
      next.copyFrom(now);
      int row = next.freeRow(table);
      if (row >= Grid.MOST_ROWS) {
        return Grid.NONE;
      }
      next.rows[table] |= 1 << row;
      for (int column = 0; column < Grid.WIDTH[table]; column++) {
        next.cells[Grid.FIRST[table] + column][row] = values[column];
      }
      int answer = settle();
      return answer < 0 ? answer : row;
    }

    int putInMany(int table, int many, int from, int step) {
      next.copyFrom(now);
      for (int k = 0; k < many; k++) {
        int row = next.freeRow(table);
        if (row < Grid.MOST_ROWS) {
          next.rows[table] |= 1 << row;
          for (int column = 0; column < Grid.WIDTH[table]; column++) {
            int value = (from + step * k + 7 * column) % Grid.VALUES;
            next.cells[Grid.FIRST[table] + column][row] = value;
          }
        }
      }
      return settle();
    }

    /** Gives some rows of a table a value, or NULL, at a place. */
    int give(int table, int rows, int place, int value) {
      next.copyFrom(now);
      for (int row = 0; row < Grid.MOST_ROWS; row++) {
        if ((rows & now.rows[table] & 1 << row) != 0) {
          next.cells[place][row] = value;
        }
      }
      return settle();
    }

    /** Raises what some rows have at a place, round from the greatest value to the least. */
    int raise(int rows, int place, int by) {
      next.copyFrom(now);
      for (int row = 0; row < Grid.MOST_ROWS; row++) {
        int value = now.cells[place][row];
        if ((rows >> row & 1) == 1 && value != Grid.NONE) {
          next.cells[place][row] = (value + by) % Grid.VALUES;
        }
      }
      return settle();
    }

    /** How many rows went, or a fault. */
    int takeOut(int table, int rows) {
      next.copyFrom(now);
      Arrays.fill(gone, 0);
      gone[table] = rows;
      // Each round but the last takes at least one row more.
      boolean hasMore = true;
      for (int round = 0; hasMore && round <= Grid.TABLES * Grid.MOST_ROWS; round++) {
        hasMore = pull();
      }
      letGo();
      int went = 0;
      for (int each = 0; each < Grid.TABLES; each++) {
        next.rows[each] &= ~gone[each];
        went += Integer.bitCount(gone[each]);
      }
      int answer = settle();
      return answer < 0 ? answer : went;
    }

    /** Takes along what falls with the rows that go; false, if nothing more does. */
    private boolean pull() {
      boolean hasMore = false;
      for (int place = 0; place < Grid.COLUMNS; place++) {
        int to = columns[place].linkTo;
        if (to != Grid.NONE && columns[place].linkKind == FALLS) {
          int table = Grid.TABLE_OF[place];
          int falling = now.rowsMeeting(place, to, gone[Grid.TABLE_OF[to]]);
          hasMore = hasMore || (falling & ~gone[table]) != 0;
          gone[table] |= falling;
        }
      }
      return hasMore;
    }

    private void letGo() {
      for (int place = 0; place < Grid.COLUMNS; place++) {
        int to = columns[place].linkTo;
        if (to != Grid.NONE && columns[place].linkKind == LETS_GO) {
          int free = now.rowsMeeting(place, to, gone[Grid.TABLE_OF[to]]);
          for (int row = 0; row < Grid.MOST_ROWS; row++) {
            if ((free >> row & 1) == 1) {
              next.cells[place][row] = Grid.NONE;
            }
          }
        }
      }
    }

    /** Makes the change that leads to what is written down: its size, or a fault. */
    private int settle() {
      int fault = faultOf(next);
      if (fault != 0) {
        return fault;
      }
      int size = 0;
      int movedTables = 0;
      Arrays.fill(changedColumns, 0);
      for (int table = 0; table < Grid.TABLES; table++) {
        for (int row = 0; row < Grid.MOST_ROWS; row++) {
          if (!now.isSameRow(next, table, row)) {
            size++;
            if (now.hasRow(table, row) != next.hasRow(table, row)) {
              movedTables |= 1 << table;
            } else {
              changedColumns[table] |= now.changedColumns(next, table, row);
            }
          }
        }
      }
      answers.takeOut(movedTables, changedColumns);
      become(next);
      if (deep > 0) {
        sizes[deep - 1] += size;
      }
      return size;
    }

    /** The fault of a grid; 0, if all rules hold. */
    int faultOf(Grid grid) {
      for (int place = 0; place < Grid.COLUMNS; place++) {
        if (columns[place].isNeeded && grid.nullRows(place) != 0) {
          return MISSING;
        }
      }
      for (int place = 0; place < Grid.COLUMNS; place++) {
        if (!grid.isWithin(place, columns[place].low, columns[place].high)) {
          return OUTSIDE;
        }
      }
      for (int place = 0; place < Grid.COLUMNS; place++) {
        if (columns[place].has(Column.UNIQUE) && grid.hasTwins(place)) {
          return TWINS;
        }
      }
      for (int place = 0; place < Grid.COLUMNS; place++) {
        int to = columns[place].linkTo;
        if (to != Grid.NONE && !grid.isFound(place, to)) {
          return LOST;
        }
      }
      return 0;
    }

    /** First all old values leave the indexes, so that rows may take each other's values over. */
    private void become(Grid grid) {
      for (int table = 0; table < Grid.TABLES; table++) {
        for (int row = 0; row < Grid.MOST_ROWS; row++) {
          if (now.hasRow(table, row) && !now.isSameRow(grid, table, row)) {
            leave(table, row);
          }
        }
        for (int row = 0; row < Grid.MOST_ROWS; row++) {
          if (grid.hasRow(table, row) && !now.isSameRow(grid, table, row)) {
            enter(grid, table, row);
          }
        }
      }
      now.copyFrom(grid);
    }

    private void leave(int table, int row) {
      for (int column = 0; column < Grid.WIDTH[table]; column++) {
        int place = Grid.FIRST[table] + column;
        columns[place].leave(row, now.cells[place][row]);
      }
      if (counts.table == table) {
        counts.countOut(now, row);
      }
    }

    private void enter(Grid grid, int table, int row) {
      for (int column = 0; column < Grid.WIDTH[table]; column++) {
        int place = Grid.FIRST[table] + column;
        columns[place].enter(columns[place].kinds, row, grid.cells[place][row]);
      }
      if (counts.table == table) {
        counts.countIn(grid, row);
      }
    }

    void openOne() {
      if (deep < DEEPEST) {
        grids[deep].copyFrom(now);
        keptThen[deep].copyFrom(answers);
        sizes[deep] = 0;
        deep++;
      }
    }

    int endForGood() {
      if (deep == 0) {
        return 0;
      }
      deep--;
      if (deep > 0) {
        sizes[deep - 1] += sizes[deep];
      }
      return sizes[deep];
    }

    int endUndone() {
      if (deep == 0) {
        return 0;
      }
      deep--;
      become(grids[deep]);
      answers.copyFrom(keptThen[deep]);
      return sizes[deep];
    }

    int sizeOfAll() {
      int sum = 0;
      for (int each = 0; each < deep; each++) {
        sum += sizes[each];
      }
      return sum;
    }
  }

  /** Joins, groups and ranks of what the rows have. */
  static final class Tally {
    static final int NO_GROUP = -2;

    private final Grid now;
    /** Of a column the rows by value, and behind all values those with NULL. */
    private final int[] sets = new int[Grid.VALUES + 1];
    private final int[] otherSets = new int[Grid.VALUES + 1];

    Tally(Grid now) {
      this.now = now;
    }

    private void sort(int place, int[] into) {
      int table = Grid.TABLE_OF[place];
      Arrays.fill(into, 0);
      for (int row = 0; row < Grid.MOST_ROWS; row++) {
        if (now.hasRow(table, row)) {
          int value = now.cells[place][row];
          into[value == Grid.NONE ? Grid.VALUES : value] |= 1 << row;
        }
      }
    }

    int pairs(int place, int toPlace, int way) {
      switch (way) {
        case 0: return pairsRowByRow(place, toPlace);
        case 1: return pairsInOrder(place, toPlace);
        default: return pairsLookedUp(place, toPlace);
      }
    }

    private int pairsRowByRow(int place, int toPlace) {
      int many = 0;
      for (int row = 0; row < Grid.MOST_ROWS; row++) {
        int value = now.cells[place][row];
        if (now.hasRow(Grid.TABLE_OF[place], row) && value != Grid.NONE) {
          for (int other = 0; other < Grid.MOST_ROWS; other++) {
            if (now.hasRow(Grid.TABLE_OF[toPlace], other) && now.cells[toPlace][other] == value) {
              many++;
            }
          }
        }
      }
      return many;
    }

    private int pairsInOrder(int place, int toPlace) {
      sort(place, sets);
      sort(toPlace, otherSets);
      int many = 0;
      for (int value = 0; value < Grid.VALUES; value++) {
        many += Integer.bitCount(sets[value]) * Integer.bitCount(otherSets[value]);
      }
      return many;
    }

    private int pairsLookedUp(int place, int toPlace) {
      sort(toPlace, otherSets);
      int many = 0;
      for (int row = 0; row < Grid.MOST_ROWS; row++) {
        int value = now.cells[place][row];
        if (now.hasRow(Grid.TABLE_OF[place], row) && value != Grid.NONE) {
          many += Integer.bitCount(otherSets[value]);
        }
      }
      return many;
    }

    int pairAt(int place, int toPlace, int k) {
      sort(toPlace, otherSets);
      int before = 0;
      for (int row = 0; row < Grid.MOST_ROWS; row++) {
        int value = now.cells[place][row];
        if (now.hasRow(Grid.TABLE_OF[place], row) && value != Grid.NONE) {
          int many = Integer.bitCount(otherSets[value]);
          if (k >= before && k < before + many) {
            return 32 * row + memberAt(otherSets[value], k - before);
          }
          before += many;
        }
      }
      return Grid.NONE;
    }

    /** The k-th number in a set. */
    private static int memberAt(int set, int k) {
      int left = k;
      for (int member = 0; member < Grid.MOST_ROWS; member++) {
        if ((set >> member & 1) == 1) {
          if (left == 0) {
            return member;
          }
          left--;
        }
      }
      return Grid.NONE;
    }

    int manyGroups(int place) {
      return manyValues(place) + (sets[Grid.VALUES] == 0 ? 0 : 1);
    }

    int manyValues(int place) {
      sort(place, sets);
      int many = 0;
      for (int value = 0; value < Grid.VALUES; value++) {
        if (sets[value] != 0) {
          many++;
        }
      }
      return many;
    }

    /** The value of the k-th group, or NULL; NO_GROUP, if there is none. */
    int groupAt(int place, int k) {
      sort(place, sets);
      int before = 0;
      for (int value = 0; value <= Grid.VALUES; value++) {
        if (sets[value] != 0) {
          if (before == k) {
            return value == Grid.VALUES ? Grid.NONE : value;
          }
          before++;
        }
      }
      return NO_GROUP;
    }

    int rankedAt(int place, boolean isFalling, int k) {
      sort(place, sets);
      int before = 0;
      for (int each = 0; each <= Grid.VALUES; each++) {
        int value = isFalling && each < Grid.VALUES ? Grid.MOST_VALUE - each : each;
        int many = Integer.bitCount(sets[value]);
        if (k >= before && k < before + many) {
          return memberAt(sets[value], k - before);
        }
        before += many;
      }
      return Grid.NONE;
    }

    /** Whether the groups of a column come to what its table has, in sum and in rows. */
    boolean isWhole(int place) {
      int all = now.rows[Grid.TABLE_OF[place]];
      sort(place, sets);
      int sum = 0;
      int rows = 0;
      for (int value = 0; value <= Grid.VALUES; value++) {
        int many = Integer.bitCount(sets[value]);
        rows += many;
        sum += value == Grid.VALUES ? 0 : value * many;
      }
      return sum == now.sum(place, all) && rows == Integer.bitCount(all);
    }
  }

  /** Looks whether all that is kept beside the rows agrees with them. */
  static final class Audit {
    private final Grid now;
    private final Column[] columns;
    private final Cube counts;
    private final Roads roads;
    private final Tally tally;
    private final Changes changes;
    private final Column fresh = new Column();

    Audit(Grid now, Column[] columns, Cube counts, Roads roads, Tally tally, Changes changes) {
      this.now = now;
      this.columns = columns;
      this.counts = counts;
      this.roads = roads;
      this.tally = tally;
      this.changes = changes;
    }

    /** Builds each index anew beside the one that has grown with the changes. */
    boolean holdIndexes() {
      for (int place = 0; place < Grid.COLUMNS; place++) {
        Column column = columns[place];
        for (int kind = Column.UNIQUE; kind <= Column.WORD; kind++) {
          if (column.has(kind)) {
            fresh.build(kind, now.rows[Grid.TABLE_OF[place]], now.cells[place]);
            if (!isSameIndex(column, kind)) {
              return false;
            }
          }
        }
      }
      return true;
    }

    private boolean isSameIndex(Column column, int kind) {
      if (kind == Column.UNIQUE) {
        return isSameArray(column.rowOf, fresh.rowOf);
      }
      if (kind == Column.WORD) {
        return isSameArray(column.rowsOfText, fresh.rowsOfText);
      }
      return column.rowsOfNull == fresh.rowsOfNull && isSameArray(column.rowsOf, fresh.rowsOf);
    }

    private static boolean isSameArray(int[] one, int[] two) {
      if (one.length != two.length) {
        return false;
      }
      for (int at = 0; at < one.length; at++) {
        if (one[at] != two[at]) {
          return false;
        }
      }
      return true;
    }

    boolean holdCells() {
      return counts.isOf(now);
    }

    boolean holdRules() {
      return changes.faultOf(now) == 0;
    }

    boolean holdAnswers(Answers answers, Reader reader) {
      for (int each = 0; each < answers.many; each++) {
        int table = answers.tell(each, 0);
        int broken = reader.read(answers.textOf(each), Grid.WIDTH[table]);
        if (broken != Grid.NONE
            || roads.rowByRow(table) != answers.tell(each, 1)) {
          return false;
        }
      }
      return true;
    }

    boolean holdRoads(Line typed, Reader reader) {
      for (int table = 0; table < Grid.TABLES; table++) {
        if (reader.read(typed, Grid.WIDTH[table]) == Grid.NONE) {
          int set = roads.rowByRow(table);
          if (roads.byConditions(table, true) != set || roads.byConditions(table, false) != set
              || roads.byPlan(table) != set) {
            return false;
          }
        }
      }
      return true;
    }

    boolean holdSums() {
      for (int place = 0; place < Grid.COLUMNS; place++) {
        int many = tally.pairs(place, 0, 0);
        if (!tally.isWhole(place) || tally.pairs(place, 0, 1) != many
            || tally.pairs(place, 0, 2) != many) {
          return false;
        }
      }
      return true;
    }

    int stampOfTables(int start) {
      int s = start;
      for (int table = 0; table < Grid.TABLES; table++) {
        s = s * 31 + now.rows[table];
        for (int row = 0; row < Grid.MOST_ROWS; row++) {
          for (int column = 0; now.hasRow(table, row) && column < Grid.WIDTH[table]; column++) {
            s = s * 31 + now.cells[Grid.FIRST[table] + column][row];
          }
        }
        for (int column = 0; column < Grid.WIDTH[table]; column++) {
          s = stampOfIndexes(s, columns[Grid.FIRST[table] + column]);
        }
      }
      return s;
    }

    private static int stampOfIndexes(int start, Column column) {
      int s = start;
      for (int value = 0; column.has(Column.UNIQUE) && value < Grid.VALUES; value++) {
        if (column.rowOf[value] != Grid.NONE) {
          s = (s * 31 + value) * 31 + column.rowOf[value];
        }
      }
      if (column.has(Column.ORDERED)) {
        for (int value = 0; value < Grid.VALUES; value++) {
          if (column.rowsOf[value] != 0) {
            s = (s * 31 + value) * 31 + column.rowsOf[value];
          }
        }
        s = s * 31 + column.rowsOfNull;
      }
      return column.has(Column.WORD) ? s * 31 + column.manyTexts() : s;
    }
  }
}
