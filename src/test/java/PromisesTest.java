// One method for each promise of the document: ordinary inputs, its edges, wrong inputs.
public final class PromisesTest {
  private static final int BAD = -1, FULL = -2, FINDING = -3, STATE = -4;
  private static final int NOTHING = 1, BEYOND = 2, UNLIKE = 3, NOUGHT = 4, SIZE = 5;
  private static final int MIN = Integer.MIN_VALUE, MAX = Integer.MAX_VALUE;
  private static int wrong = 0;

  private static void due(int promise, String what, long got, long want) {
    if (got != want) {
      wrong++;
      System.out.println("promise " + promise + ": " + what + " answered " + got + ", due is " + want);
    }
  }

  // A call that tells by asked(): its answer and what it told.
  private static void dueTold(int promise, String what, BallastLine x, long got, long want, long asked) {
    due(promise, what, got, want);
    due(promise, what + ", asked()", x.asked(), asked);
  }

  // A refusal leaves everything but the finding as it was.
  private static void dueRefused(int promise, String what, BallastLine x, long before, long told, long got, long want) {
    due(promise, what, got, want);
    due(promise, what + ", digest()", x.digest(), before);
    due(promise, what + ", asked()", x.asked(), told);
  }

  private static void dueFinding(int promise, String what, BallastLine x, int f, int[] had, long got) {
    due(promise, what, got, FINDING);
    due(promise, what + ", finding()", x.finding(), f);
    for (int k = 1; k <= 5; k++) {
      due(promise, what + ", findings(" + k + ")", x.findings(k), had[k] + (k == f ? 1 : 0));
    }
  }

  private static int[] had(BallastLine x) {
    int[] had = new int[6];
    for (int k = 1; k <= 5; k++) {
      had[k] = x.findings(k);
    }
    return had;
  }

  private static void dueRow(int promise, String what, BallastLine x, int r, int... want) {
    for (int i = 0; i < 40; i++) {
      x.at(r, i);
      due(promise, what + ", place " + i, x.asked(), i < want.length ? want[i] : 0);
    }
  }

  private static void dueHundredths(int promise, String what, BallastLine x, int... want) {
    for (int i = 0; i < want.length; i++) {
      due(promise, what + ", told(" + i + ", 2)", x.told(i, 2), want[i]);
    }
  }

  private static void dueBeds(int promise, String what, BallastLine x, int... want) {
    for (int i = 0; i < want.length; i++) {
      int had = x.bed(i, 0);
      due(promise, what + ", bed(" + i + ")", had, 1);
      due(promise, what + ", bed(" + i + ") was", x.asked(), want[i]);
      x.bed(i, want[i]);
    }
  }

  private static BallastLine withBeds(int... beds) {
    BallastLine x = new BallastLine();
    x.line(beds.length);
    for (int i = 0; i < beds.length; i++) {
      x.bed(i, beds[i]);
    }
    return x;
  }

  private static void layRow(BallastLine x, int r, int... values) {
    x.level(r);
    for (int i = 0; i < 40; i++) {
      x.lay(r, i, i < values.length ? values[i] : 0);
    }
  }

  private static void fillTable(BallastLine x, int v) {
    for (int i = 0; i < 16; i++) {
      x.table(i, v);
    }
  }

  private static long on(long h, long v) {
    return 31 * h + v;
  }

  private static void aNewObject() {
    BallastLine x = new BallastLine();
    due(1, "count(0)", x.count(0), 10);
    for (int what = 1; what <= 4; what++) {
      due(1, "count(" + what + ")", x.count(what), 0);
    }
    for (int i = 0; i < 10; i++) {
      due(1, "told(" + i + ", 0)", x.told(i, 0), 0);
      due(1, "told(" + i + ", 1)", x.told(i, 1), 5);
      due(1, "told(" + i + ", 2)", x.told(i, 2), 0);
      due(1, "told(" + i + ", 3)", x.told(i, 3), 0);
      dueTold(1, "bed(" + i + ", 0)", x, x.bed(i, 0), 1, 0);
    }
    due(1, "told(10, 0)", x.told(10, 0), BAD);
    for (int i = 0; i < 16; i++) {
      due(1, "table(" + i + ", 0)", x.table(i, 0), 1000);
    }
    for (int s = 0; s < 4; s++) {
      dueTold(1, "cut(" + s + ", 0)", x, x.cut(s, 0), 1, 250);
    }
    for (int r = 0; r < 6; r++) {
      due(1, "at(" + r + ", 0)", x.at(r, 0), FINDING);
    }
    due(1, "pass(1)", x.pass(1), STATE);
    due(1, "best(14000)", x.best(14000), 0);
    due(1, "BAD", BallastLine.BAD, -1);
    due(1, "FULL", BallastLine.FULL, -2);
    due(1, "FINDING", BallastLine.FINDING, -3);
    due(1, "STATE", BallastLine.STATE, -4);
    due(1, "NONE", BallastLine.NONE, -9);
  }

  private static void line() {
    BallastLine x = new BallastLine();
    due(2, "line(3)", x.line(3), 3);
    due(2, "count(0)", x.count(0), 3);
    due(2, "told(3, 0)", x.told(3, 0), BAD);
    due(2, "line(40)", x.line(40), 40);
    due(2, "told(39, 1)", x.told(39, 1), 5);
    due(2, "told(40, 1)", x.told(40, 1), BAD);
    x.bed(7, 70);
    x.stones(7, 9);
    x.sleeper(7, 3);
    x.lose(8, true);
    x.axle(250);
    fillTable(x, 99);
    x.pass(1);
    x.lose(7, true);
    x.level(4);
    x.work(3, 4);
    x.cut(2, 77);
    x.mean();
    long told = x.asked();
    long before = x.digest();
    for (int n : new int[] {2, 41, 0, -1, MIN, MAX}) {
      dueRefused(2, "line(" + n + ")", x, before, told, x.line(n), BAD);
    }
    due(2, "line(12)", x.line(12), 12);
    for (int i = 0; i < 12; i++) {
      due(2, "told(" + i + ", 0)", x.told(i, 0), 0);
      due(2, "told(" + i + ", 1)", x.told(i, 1), 5);
      due(2, "told(" + i + ", 2)", x.told(i, 2), 0);
      due(2, "told(" + i + ", 3)", x.told(i, 3), 0);
    }
    dueBeds(2, "after line(12)", x, 0, 0, 0, 0, 0, 0, 0, 0, 0, 0, 0, 0);
    x.sleeper(7, 3);
    due(2, "mark(7, 3) after line", x.mark(7, 3), 0);
    due(2, "count(1)", x.count(1), 0);
    due(2, "count(2)", x.count(2), 1);
    due(2, "count(3)", x.count(3), 1);
    due(2, "count(4)", x.count(4), 1);
    due(2, "table(9, 0)", x.table(9, 0), 1099);
    dueTold(2, "cut(2, 0)", x, x.cut(2, 0), 1, 77);
    x.line(40);
    due(2, "told(39, 3) after two", x.told(39, 3), 0);
  }

  private static void sleeper() {
    BallastLine x = new BallastLine();
    due(3, "sleeper(0, 3)", x.sleeper(0, 3), 0);
    due(3, "sleeper(0, 2)", x.sleeper(0, 2), 3);
    due(3, "sleeper(0, 1)", x.sleeper(0, 1), 2);
    due(3, "sleeper(0, 0)", x.sleeper(0, 0), 1);
    due(3, "sleeper(0, 0) again", x.sleeper(0, 0), 0);
    x.bed(9, 123);
    x.stones(9, 2);
    x.sleeper(9, 2);
    x.lose(9, true);
    due(3, "sleeper(9, 1) of a LOST one", x.sleeper(9, 1), 2);
    due(3, "told(9, 0)", x.told(9, 0), 1);
    due(3, "told(9, 1)", x.told(9, 1), 2);
    due(3, "told(9, 3)", x.told(9, 3), 0);
    dueTold(3, "bed(9, 5)", x, x.bed(9, 5), 1, 123);
    x.axle(10);
    fillTable(x, 7);
    x.pass(1);
    int kept = x.told(4, 2);
    due(3, "told(4, 2)", kept, 21);
    x.sleeper(4, 2);
    due(3, "hundredths stay", x.told(4, 2), 21);
    long before = x.digest();
    for (int i : new int[] {-1, 10, MIN, MAX}) {
      dueRefused(3, "sleeper(" + i + ", 1)", x, before, 123, x.sleeper(i, 1), BAD);
    }
    for (int kind : new int[] {-1, 4, MIN, MAX}) {
      dueRefused(3, "sleeper(0, " + kind + ")", x, before, 123, x.sleeper(0, kind), BAD);
    }
  }

  private static void lose() {
    BallastLine x = new BallastLine();
    x.bed(3, 40);
    x.sleeper(3, 2);
    due(4, "lose(3, false)", x.lose(3, false), 0);
    due(4, "lose(3, true)", x.lose(3, true), 0);
    due(4, "told(3, 3)", x.told(3, 3), 1);
    due(4, "lose(3, true) again", x.lose(3, true), 1);
    due(4, "count(1)", x.count(1), 1);
    due(4, "lose(3, false)", x.lose(3, false), 1);
    due(4, "told(3, 3)", x.told(3, 3), 0);
    due(4, "told(3, 0)", x.told(3, 0), 2);
    dueTold(4, "bed(3, 0)", x, x.bed(3, 0), 1, 40);
    due(4, "lose(9, true)", x.lose(9, true), 0);
    long before = x.digest();
    for (int i : new int[] {-1, 10, MIN, MAX}) {
      dueRefused(4, "lose(" + i + ", true)", x, before, 40, x.lose(i, true), BAD);
    }
  }

  private static void bed() {
    BallastLine x = new BallastLine();
    dueTold(5, "bed(0, 10000)", x, x.bed(0, 10000), 1, 0);
    dueTold(5, "bed(0, -10000)", x, x.bed(0, -10000), 1, 10000);
    dueTold(5, "bed(0, 1)", x, x.bed(0, 1), 1, -10000);
    dueTold(5, "bed(9, 2)", x, x.bed(9, 2), 1, 0);
    dueTold(5, "bed(9, 2)", x, x.bed(9, 2), 1, 2);
    x.lose(4, true);
    long before = x.digest();
    dueFinding(5, "bed(4, 0)", x, NOTHING, had(x), x.bed(4, 0));
    dueRefused(5, "bed(4, 10001)", x, before, 2, x.bed(4, 10001), BAD);
    for (int v : new int[] {10001, -10001, MIN, MAX}) {
      dueRefused(5, "bed(0, " + v + ")", x, before, 2, x.bed(0, v), BAD);
    }
    for (int i : new int[] {-1, 10, MIN, MAX}) {
      dueRefused(5, "bed(" + i + ", 0)", x, before, 2, x.bed(i, 0), BAD);
    }
    x = new BallastLine();
    x.axle(10);
    fillTable(x, 7);
    x.pass(1);
    x.bed(4, 50);
    due(5, "hundredths stay", x.told(4, 2), 21);
  }

  private static void stones() {
    BallastLine x = new BallastLine();
    due(6, "stones(0, 9)", x.stones(0, 9), 5);
    due(6, "stones(0, 1)", x.stones(0, 1), 9);
    due(6, "stones(9, 4)", x.stones(9, 4), 5);
    due(6, "told(9, 1)", x.told(9, 1), 4);
    due(6, "asked()", x.asked(), 0);
    x.lose(4, true);
    long before = x.digest();
    dueFinding(6, "stones(4, 1)", x, NOTHING, had(x), x.stones(4, 1));
    dueRefused(6, "stones(4, 10)", x, before, 0, x.stones(4, 10), BAD);
    for (int v : new int[] {0, 10, -1, MIN, MAX}) {
      dueRefused(6, "stones(0, " + v + ")", x, before, 0, x.stones(0, v), BAD);
    }
    for (int i : new int[] {-1, 10, MIN, MAX}) {
      dueRefused(6, "stones(" + i + ", 1)", x, before, 0, x.stones(i, 1), BAD);
    }
  }

  private static void told() {
    BallastLine x = new BallastLine();
    x.axle(10);
    fillTable(x, 30);
    x.pass(1);
    x.stones(2, 8);
    x.sleeper(2, 3);
    x.lose(2, true);
    due(7, "told(2, 0)", x.told(2, 0), 3);
    due(7, "told(2, 1)", x.told(2, 1), 8);
    due(7, "told(2, 2)", x.told(2, 2), 90);
    due(7, "told(2, 3)", x.told(2, 3), 1);
    due(7, "told(9, 3)", x.told(9, 3), 0);
    long before = x.digest();
    for (int what : new int[] {-1, 4, MIN, MAX}) {
      dueRefused(7, "told(2, " + what + ")", x, before, 0, x.told(2, what), BAD);
    }
    for (int i : new int[] {-1, 10, MIN, MAX}) {
      dueRefused(7, "told(" + i + ", 0)", x, before, 0, x.told(i, 0), BAD);
    }
  }

  private static void mark() {
    BallastLine x = new BallastLine();
    x.axle(10);
    x.axle(10);
    fillTable(x, 4);
    x.sleeper(1, 1);
    x.sleeper(4, 2);
    x.sleeper(7, 3);
    x.stones(4, 6);
    x.pass(3);
    // 2 axles, 3 passes, 3 bearings each: 18 times 4 less 1, and 4 more 1.
    due(8, "mark(1, 1)", x.mark(1, 1), 54);
    due(8, "mark(7, 1) of a JOINT", x.mark(7, 1), 54);
    due(8, "mark(7, 3)", x.mark(7, 3), 6);
    due(8, "mark(4, 2)", x.mark(4, 2), 6);
    due(8, "told(4, 2)", x.told(4, 2), 90);
    int[][] unlike = {{0, 1}, {0, 2}, {0, 3}, {1, 2}, {1, 3}, {4, 1}, {4, 3}, {7, 2}};
    for (int[] u : unlike) {
      dueFinding(8, "mark(" + u[0] + ", " + u[1] + ")", x, UNLIKE, had(x), x.mark(u[0], u[1]));
    }
    x.sleeper(7, 1);
    x.pass(1);
    x.sleeper(7, 3);
    due(8, "mark(7, 3): as it was one", x.mark(7, 3), 6);
    x.lose(7, true);
    dueFinding(8, "mark(7, 3) LOST", x, NOTHING, had(x), x.mark(7, 3));
    dueFinding(8, "mark(7, 2) LOST", x, NOTHING, had(x), x.mark(7, 2));
    x.pass(1);
    x.lose(7, false);
    due(8, "mark(7, 3): none was there", x.mark(7, 3), 6);
    x.pass(1);
    due(8, "mark(7, 3)", x.mark(7, 3), 8);
    x.lose(0, true);
    long before = x.digest();
    for (int kind : new int[] {0, -1, 4, MIN, MAX}) {
      dueRefused(8, "mark(0, " + kind + ")", x, before, 0, x.mark(0, kind), BAD);
    }
    for (int i : new int[] {-1, 10, MIN, MAX}) {
      dueRefused(8, "mark(" + i + ", 1)", x, before, 0, x.mark(i, 1), BAD);
    }
  }

  private static void rail() {
    BallastLine x = withBeds(0, -100, -100, -100, 7, -100, -100, -100, -100, 0);
    int[] heights = {0, 1, 3, 5, 7, -20, -47, -73, -50, 0};
    for (int i = 0; i < 10; i++) {
      // 4 to 8: 7 .. -100; 5 to 9: -100 .. 0.
      long want = heights[i];
      if (i >= 5 && i <= 8) {
        want = Math.max(Math.floorDiv(7 * (8 - i) - 100 * (i - 4), 4), Math.floorDiv(-100 * (9 - i), 4));
      }
      dueTold(9, "rail(" + i + ")", x, x.rail(i), 1, want);
    }
    x = withBeds(-5, -9, 0, -1, -9, -8);
    dueTold(9, "rail(1), cut down", x, x.rail(1), 1, -3);
    dueTold(9, "rail(4), cut down", x, x.rail(4), 1, -5);
    x = withBeds(0, -50, -50, -50, -50, 0);
    dueTold(9, "rail(2): 5 apart is too far", x, x.rail(2), 1, -25);
    x = withBeds(1, 2, 3);
    x.lose(1, true);
    dueTold(9, "rail(1) of a LOST one", x, x.rail(1), 1, 2);
    x.lose(0, true);
    dueTold(9, "rail(0): the nearest", x, x.rail(0), 1, 3);
    x.lose(2, true);
    dueTold(9, "rail(0): none", x, x.rail(0), 1, 0);
    x = withBeds(20, 0, 0, 0, 0, 0, 10, 0, 0);
    for (int i = 1; i <= 5; i++) {
      x.lose(i, true);
    }
    dueTold(9, "rail(2): nearer to 0", x, x.rail(2), 1, 20);
    dueTold(9, "rail(3): of alike near ones the lesser", x, x.rail(3), 1, 20);
    dueTold(9, "rail(4): nearer to 6", x, x.rail(4), 1, 10);
    x.bed(0, -20);
    dueTold(9, "rail(3): the lesser one, not its BED", x, x.rail(3), 1, -20);
    x.bed(6, -30);
    dueTold(9, "rail(3): the lesser one, not its BED", x, x.rail(3), 1, -20);
    long before = x.digest();
    for (int i : new int[] {-1, 9, MIN, MAX}) {
      dueRefused(9, "rail(" + i + ")", x, before, -20, x.rail(i), BAD);
    }
  }

  private static void gap() {
    BallastLine x = withBeds(0, -3, 0, 5, 0);
    due(10, "gap(0)", x.gap(0), 0);
    due(10, "gap(1)", x.gap(1), 4);
    due(10, "gap(2)", x.gap(2), 3);
    due(10, "gap(3)", x.gap(3), 0);
    due(10, "gap(4)", x.gap(4), 0);
    due(10, "asked()", x.asked(), 0);
    x.bed(4, 6);
    due(10, "gap(3)", x.gap(3), 0);
    x.bed(4, 7);
    due(10, "gap(3): 0 .. 4 at 5 and a quarter, cut down", x.gap(3), 0);
    x.bed(4, 8);
    due(10, "gap(3): 0 .. 4 at 6", x.gap(3), 1);
    x.lose(3, true);
    long before = x.digest();
    dueFinding(10, "gap(3)", x, NOTHING, had(x), x.gap(3));
    for (int i : new int[] {-1, 5, MIN, MAX}) {
      dueRefused(10, "gap(" + i + ")", x, before, 7, x.gap(i), BAD);
    }
  }

  private static void axle() {
    BallastLine x = new BallastLine();
    for (int w : new int[] {0, -1, 251, MIN, MAX}) {
      due(11, "axle(" + w + ")", x.axle(w), BAD);
    }
    due(11, "count(2)", x.count(2), 0);
    due(11, "axle(1)", x.axle(1), 1);
    for (int n = 2; n <= 20; n++) {
      due(11, "axle(250)", x.axle(250), n);
    }
    long before = x.digest();
    dueRefused(11, "axle(1)", x, before, 0, x.axle(1), FULL);
    dueRefused(11, "axle(0)", x, before, 0, x.axle(0), BAD);
    due(11, "asked()", x.asked(), 0);
  }

  private static void uncouple() {
    BallastLine x = new BallastLine();
    due(12, "uncouple()", x.uncouple(), 0);
    x.axle(5);
    x.axle(6);
    due(12, "uncouple()", x.uncouple(), 2);
    due(12, "count(2)", x.count(2), 0);
    due(12, "uncouple() again", x.uncouple(), 0);
    due(12, "pass(1)", x.pass(1), STATE);
    due(12, "axle(7)", x.axle(7), 1);
  }

  private static void table() {
    BallastLine x = new BallastLine();
    due(13, "table(0, 127)", x.table(0, 127), 1000);
    due(13, "table(0, -128)", x.table(0, -128), 1127);
    due(13, "table(0, 128)", x.table(0, 128), 872);
    due(13, "table(0, 300)", x.table(0, 300), 872);
    due(13, "table(0, -300)", x.table(0, -300), 1044);
    due(13, "table(0, MAX)", x.table(0, MAX), 956);
    due(13, "table(0, MIN)", x.table(0, MIN), 999);
    due(13, "table(0, 1)", x.table(0, 1), 1000);
    due(13, "table(15, 2)", x.table(15, 2), 1000);
    due(13, "table(15, 2)", x.table(15, 2), 1002);
    for (int i : new int[] {-1, 16, MIN, MAX}) {
      due(13, "table(" + i + ", 5)", x.table(i, 5), BAD);
    }
    due(13, "asked()", x.asked(), 0);
  }

  private static void pass() {
    BallastLine x = new BallastLine();
    x.axle(40);
    x.table(2, 1);
    x.table(4, 3);
    x.table(5, 7);
    due(14, "pass(0)", x.pass(0), 0);
    due(14, "pass(1)", x.pass(1), 0);
    dueHundredths(14, "parts of w", x, 8, 5, 5, 5, 5, 5, 5, 5, 5, 8);
    due(14, "pass(13)", x.pass(13), 2);
    dueHundredths(14, "14 passes", x, 12, 70, 70, 70, 70, 70, 70, 70, 70, 12);
    dueBeds(14, "14 passes", x, -1, 0, 0, 0, 0, 0, 0, 0, 0, -1);

    passByWhatIsThere();
    passAfterChanges();
    passByKind();
    passByTable();
    passInOrder();

    x = new BallastLine();
    long before = x.digest();
    for (int n : new int[] {-1, 51, MIN, MAX}) {
      dueRefused(14, "pass(" + n + ")", x, before, 0, x.pass(n), BAD);
    }
    dueRefused(14, "pass(0)", x, before, 0, x.pass(0), STATE);
    dueRefused(14, "pass(50)", x, before, 0, x.pass(50), STATE);
    x.axle(1);
    due(14, "pass(50)", x.pass(50), 0);
  }

  private static void passByWhatIsThere() {
    // 40 at SLEEPER 1 of 3: 1 hangs, so halves go to 0 and 2; at 0 and 2 all is borne alone.
    BallastLine x = withBeds(0, -1, 0);
    x.axle(40);
    x.table(4, 3);
    x.table(8, 10);
    due(14, "one hangs", x.pass(1), 0);
    dueHundredths(14, "one hangs", x, 13, 0, 13);
    // The same with 1 LOST.
    x = withBeds(0, 0, 0);
    x.lose(1, true);
    x.axle(40);
    x.table(4, 3);
    x.table(8, 10);
    due(14, "one is LOST", x.pass(1), 0);
    dueHundredths(14, "one is LOST", x, 13, 0, 13);
    // All LOST: nobody bears, though place 0 of THE TABLE would let it sink.
    x.lose(0, true);
    x.lose(2, true);
    fillTable(x, 100);
    due(14, "none is there", x.pass(50), 0);
    dueHundredths(14, "none is there", x, 13, 0, 13);
    // 1, 2 and 3 hang between 0 and 4: an axle at 2 is borne by nobody.
    x = withBeds(0, -9, -9, -9, 0);
    x.axle(30);
    fillTable(x, 1);
    due(14, "three hang", x.pass(1), 0);
    dueHundredths(14, "three hang", x, 2, 0, 0, 0, 2);
    // A part that is cut to 0 still lets its SLEEPER sink by place 0.
    x = withBeds(0, 0, 0);
    x.axle(1);
    x.table(0, 9);
    x.pass(1);
    dueHundredths(14, "cut to 0", x, 18, 27, 18);
  }

  private static void passByKind() {
    BallastLine x = new BallastLine();
    x.axle(10);
    fillTable(x, 7);
    x.sleeper(1, 1);
    x.sleeper(4, 2);
    x.sleeper(7, 3);
    x.pass(1);
    // WOOD: 7 less 7 / 4 cut is 6; STONE: 7 more 1 is 8.
    dueHundredths(14, "kinds", x, 14, 18, 21, 21, 24, 21, 21, 18, 21, 14);
    // 25 at a JOINT is 37: parts 9, 18, 9 by STONES 1; 25 itself: parts 6, 12, 6.
    x = new BallastLine();
    for (int i = 0; i < 10; i++) {
      x.stones(i, 1);
    }
    x.sleeper(5, 3);
    x.axle(25);
    x.table(6, 1);
    x.table(9, 40);
    x.table(12, 4);
    x.table(15, 80);
    x.pass(1);
    due(14, "before a JOINT", x.told(4, 2), 1 + 4 + 40);
    due(14, "at a JOINT", x.told(5, 2), 1 + 60 + 1);
    due(14, "behind a JOINT", x.told(6, 2), 40 + 4 + 1);
    due(14, "away from a JOINT", x.told(3, 2), 1 + 4 + 1);
    due(14, "mark(5, 3)", x.mark(5, 3), 1);
    // A hanging JOINT still makes w more, and axles go over it.
    x = withBeds(0, -50, 0);
    x.sleeper(1, 3);
    x.axle(40);
    x.table(6, 11);
    x.pass(1);
    dueHundredths(14, "a JOINT that hangs", x, 11, 0, 11);
    due(14, "mark(1, 3)", x.mark(1, 3), 1);
    // A LOST one makes it no more.
    x.lose(1, true);
    x.pass(1);
    dueHundredths(14, "a JOINT that is LOST", x, 11, 0, 11);
  }

  // What hung or rested before a call does not count after it.
  private static void passAfterChanges() {
    BallastLine x = withBeds(0, 0, 0, 0, 0, 0, 0);
    x.axle(4);
    x.table(0, 1);
    x.table(1, 1);
    x.pass(1);
    dueHundredths(14, "all rest", x, 2, 3, 3, 3, 3, 3, 2);
    x.bed(3, 40);
    x.pass(1);
    dueHundredths(14, "3 is lifted", x, 4, 3, 3, 6, 3, 3, 4);
    x.lose(3, true);
    x.pass(1);
    dueHundredths(14, "3 is LOST", x, 6, 6, 6, 6, 6, 6, 6);
    x.lose(3, false);
    x.pass(1);
    dueHundredths(14, "3 is there again", x, 8, 6, 6, 9, 6, 6, 8);
    x.bed(3, -40);
    x.pass(1);
    dueHundredths(14, "3 hangs", x, 10, 9, 9, 9, 9, 9, 10);
    x.lift(3, 3, 40);
    x.pass(1);
    dueHundredths(14, "3 is lifted by a machine", x, 12, 9, 9, 3, 9, 9, 12);
    x.line(7);
    x.pass(1);
    dueHundredths(14, "as at first", x, 2, 3, 3, 3, 3, 3, 2);
    x.bed(6, -9);
    x.bed(0, -9);
    x.pass(1);
    dueHundredths(14, "the ends are low", x, 4, 6, 6, 6, 6, 6, 4);
  }

  private static void passByTable() {
    // 250 by STONES 1 is beyond place 15; a byte below 0 counts as 0.
    BallastLine x = withBeds(0, 0, 0);
    x.stones(0, 1);
    x.stones(1, 1);
    x.stones(2, 1);
    x.lose(1, true);
    x.lose(2, true);
    x.axle(250);
    x.table(15, 99);
    x.pass(1);
    dueHundredths(14, "beyond place 15", x, 98, 0, 0);
    dueBeds(14, "beyond place 15", withSame(x), -1);
    x.table(15, -1);
    due(14, "below 0", x.pass(10), 0);
    due(14, "below 0", x.told(0, 2), 98);
    // 15 by 1 is place 15 itself, 14 is not.
    x = withBeds(0, 0, 0);
    x.lose(1, true);
    x.lose(2, true);
    x.stones(0, 1);
    x.axle(14);
    x.table(14, 5);
    x.table(15, 50);
    x.pass(1);
    due(14, "place 14", x.told(0, 2), 10);
    x.uncouple();
    x.axle(15);
    x.pass(1);
    due(14, "two of 50 hundredths more", x.told(0, 2), 10);
    dueBeds(14, "two of 50 hundredths more", withSame(x), -1);
    // At most what a byte and STONE allow in one go: 127 more 31.
    x.sleeper(0, 2);
    x.table(15, 127);
    due(14, "127 and 31", x.pass(1), 3);
    due(14, "127 and 31", x.told(0, 2), 26);
  }

  private static BallastLine withSame(BallastLine x) {
    return x;
  }

  private static void passInOrder() {
    // All axles go over 0 before one goes over 1.
    BallastLine x = withBeds(0, 0, 0);
    x.axle(40);
    x.axle(80);
    x.stones(0, 9);
    x.stones(1, 1);
    x.stones(2, 9);
    x.table(13, 100);
    // 40 at 0: 26 on 0 (place 2), 13 on 1 (place 13): 1 goes down and hangs under 0 .. 2.
    // 80 at 0: all on 0 (place 8). At 1: halves on 0 and 2. At 2: all on 2. Nothing sinks more.
    due(14, "the first axle lets 1 hang", x.pass(1), 1);
    dueBeds(14, "the first axle lets 1 hang", x, 0, -1, 0);
    // GAPS are as the axle comes: 0 and 1 sink together, each by its own part.
    x = withBeds(0, 0, 0, 0);
    fillTable(x, 100);
    x.axle(4);
    int down = x.pass(1);
    // At 0: -1, -1, 0, 0. At 1, lines at -1/2 and -2/3 are cut down to its BED, so that all three
    // sink: -2, -2, -1, 0. At 2, lines at 1 and 2 are cut down again: -2, -3, -2, -1. At 3: the
    // last two.
    due(14, "sunk together", down, 2 + 3 + 3 + 2);
    dueBeds(14, "sunk together", x, -2, -3, -3, -2);
    // 1 hangs as the axle comes to 0, and rests as it comes to 1: -1, 0, 2, 2; -2, -1, 1, 2;
    // -2, -2, 0, 1; -2, -2, -1, 0.
    x = withBeds(0, 0, 2, 2);
    x.axle(4);
    x.table(0, 100);
    due(14, "rests again", x.pass(1), 1 + 3 + 3 + 2);
    dueBeds(14, "rests again", x, -2, -2, -1, 0);
  }

  private static void mean() {
    BallastLine x = withBeds(1, 2, 2);
    dueTold(15, "mean()", x, x.mean(), 1, 1);
    x.bed(0, -3);
    x.bed(1, -3);
    dueTold(15, "mean(), cut down", x, x.mean(), 1, -2);
    x.lose(2, true);
    dueTold(15, "mean() of those there", x, x.mean(), 1, -3);
    x.lose(0, true);
    x.bed(1, 8);
    dueTold(15, "mean() of one", x, x.mean(), 1, 8);
    x.lose(1, true);
    long before = x.digest();
    dueFinding(15, "mean() of none", x, NOUGHT, had(x), x.mean());
    dueRefused(15, "mean() of none", x, before, 8, x.mean(), FINDING);
  }

  private static void lift() {
    BallastLine x = withBeds(-5, -4, -3, -2, -1, 0, 1);
    x.axle(10);
    x.table(0, 20);
    x.lose(3, true);
    x.stones(0, 1);
    x.stones(1, 2);
    x.pass(1);
    // Only 0, 2, 4, 5, 6 bear at times; BEDS stay.
    int[] kept = new int[7];
    for (int i = 0; i < 7; i++) {
      kept[i] = x.told(i, 2);
    }
    due(16, "lift(0, 6, -2)", x.lift(0, 6, -2), 3);
    dueHundredths(16, "lifted", x, 0, 0, 0, kept[3], kept[4], kept[5], kept[6]);
    due(16, "told(0, 1): 1 at least", x.told(0, 1), 1);
    due(16, "told(1, 1)", x.told(1, 1), 1);
    due(16, "told(2, 1)", x.told(2, 1), 4);
    due(16, "told(3, 1): LOST", x.told(3, 1), 5);
    due(16, "told(4, 1)", x.told(4, 1), 5);
    due(16, "lift(0, 2, -2): at h already", x.lift(0, 2, -2), 0);
    due(16, "lift(4, 4, 10000)", x.lift(4, 4, 10000), 1);
    due(16, "lift(6, 6, -10000)", x.lift(6, 6, -10000), 0);
    due(16, "asked()", x.asked(), 1 - 1);
    x.lose(3, false);
    dueBeds(16, "lifted", x, -2, -2, -2, -2, 10000, 0, 1);
    long before = x.digest();
    long told = x.asked();
    int[][] bad = {{-1, 3, 0}, {0, 7, 0}, {3, 2, 0}, {7, 7, 0}, {0, 1, 10001}, {0, 1, -10001}, {MIN, MAX, 0},
        {0, MAX, 0}, {MIN, 0, 0}, {0, 1, MIN}, {0, 1, MAX}};
    for (int[] b : bad) {
      dueRefused(16, "lift(" + b[0] + ", " + b[1] + ", " + b[2] + ")", x, before, told, x.lift(b[0], b[1], b[2]), BAD);
    }
  }

  private static void measure() {
    BallastLine x = withBeds(0, 0, 30, 0, 0, 0, 0, 0, 0, 70);
    // THE RAIL: 0, 15, 30, 20, 15, 17, 35, 46, 35 .. by its lines.
    int[] h = new int[10];
    for (int i = 0; i < 10; i++) {
      x.rail(i);
      h[i] = (int) x.asked();
    }
    due(17, "rail(3)", h[3], 22);
    due(17, "measure(0, 1)", x.measure(0, 1), 0);
    due(17, "measure(0, 1) again", x.measure(0, 1), 1);
    due(17, "count(3)", x.count(3), 1);
    for (int k = 1; k <= 4; k++) {
      due(17, "measure(5, " + k + ")", x.measure(5, k), k == 1 ? 0 : 1);
      int[] want = new int[10];
      for (int i = k; i < 10 - k; i++) {
        want[i] = 2 * h[i] - h[i - k] - h[i + k];
      }
      dueRow(17, "measure(5, " + k + ")", x, 5, want);
    }
    x = new BallastLine();
    x.line(40);
    x.bed(35, 8);
    x.measure(5, 4);
    x.at(5, 35);
    due(17, "a chord at 35 of 40", x.asked(), 16);
    x.at(5, 36);
    due(17, "none at 36", x.asked(), 0);
    x.line(8);
    layRow(x, 5, 9, 9, 9, 9, 9, 9, 9, 9, 9, 9);
    due(17, "measure(5, 4) of 8: none at all", x.measure(5, 4), 1);
    dueRow(17, "measure(5, 4) of 8: none at all", x, 5);
    long before = x.digest();
    long told = x.asked();
    int[][] bad = {{-1, 1}, {6, 1}, {0, 0}, {0, 5}, {MIN, 1}, {MAX, 1}, {0, MIN}, {0, MAX}};
    for (int[] b : bad) {
      dueRefused(17, "measure(" + b[0] + ", " + b[1] + ")", x, before, told, x.measure(b[0], b[1]), BAD);
    }
  }

  private static void level() {
    BallastLine x = withBeds(0, -9, 10);
    due(18, "level(0)", x.level(0), 0);
    dueRow(18, "level(0)", x, 0, 0, 5, 10);
    layRow(x, 0, 1, 2, 3, 4, 5, 6, 7);
    due(18, "level(0) again", x.level(0), 1);
    dueRow(18, "level(0) again", x, 0, 0, 5, 10);
    due(18, "level(5)", x.level(5), 0);
    due(18, "count(3)", x.count(3), 2);
    x.tear(5);
    due(18, "level(5), torn", x.level(5), 0);
    x.line(40);
    x.bed(39, -4);
    x.level(0);
    x.at(0, 39);
    due(18, "place 39 of 40", x.asked(), -4);
    long before = x.digest();
    for (int r : new int[] {-1, 6, MIN, MAX}) {
      dueRefused(18, "level(" + r + ")", x, before, -4, x.level(r), BAD);
    }
  }

  private static void lay() {
    BallastLine x = new BallastLine();
    long empty = x.digest();
    dueFinding(19, "lay(0, 0, 1)", x, NOTHING, had(x), x.lay(0, 0, 1));
    dueFinding(19, "lay(0, 40, 1): missing ahead", x, NOTHING, had(x), x.lay(0, 40, 1));
    dueRefused(19, "lay(0, 40, 100001): BAD ahead", x, empty, 0, x.lay(0, 40, 100001), BAD);
    x.level(5);
    dueTold(19, "lay(5, 0, 100000)", x, x.lay(5, 0, 100000), 1, 0);
    dueTold(19, "lay(5, 0, -100000)", x, x.lay(5, 0, -100000), 1, 100000);
    dueTold(19, "lay(5, 0, 3)", x, x.lay(5, 0, 3), 1, -100000);
    dueTold(19, "lay(5, 39, 4)", x, x.lay(5, 39, 4), 1, 0);
    dueTold(19, "lay(5, 39, 5)", x, x.lay(5, 39, 5), 1, 4);
    long before = x.digest();
    for (int i : new int[] {-1, 40, MIN, MAX}) {
      dueFinding(19, "lay(5, " + i + ", 1)", x, BEYOND, had(x), x.lay(5, i, 1));
    }
    for (int r : new int[] {-1, 6, MIN, MAX}) {
      dueRefused(19, "lay(" + r + ", 0, 1)", x, before, 4, x.lay(r, 0, 1), BAD);
    }
    for (int v : new int[] {100001, -100001, MIN, MAX}) {
      dueRefused(19, "lay(5, 0, " + v + ")", x, before, 4, x.lay(5, 0, v), BAD);
    }
  }

  private static void at() {
    BallastLine x = new BallastLine();
    dueFinding(20, "at(5, 0)", x, NOTHING, had(x), x.at(5, 0));
    dueFinding(20, "at(5, 40): missing ahead", x, NOTHING, had(x), x.at(5, 40));
    x.bed(0, 6);
    x.level(5);
    x.lay(5, 39, 9);
    dueTold(20, "at(5, 39)", x, x.at(5, 39), 1, 9);
    dueTold(20, "at(5, 0)", x, x.at(5, 0), 1, 6);
    dueTold(20, "at(5, 10)", x, x.at(5, 10), 1, 0);
    x.at(5, 39);
    long before = x.digest();
    for (int i : new int[] {-1, 40, MIN, MAX}) {
      dueFinding(20, "at(5, " + i + ")", x, BEYOND, had(x), x.at(5, i));
    }
    for (int r : new int[] {-1, 6, MIN, MAX}) {
      dueRefused(20, "at(" + r + ", 0)", x, before, 9, x.at(r, 0), BAD);
    }
  }

  private static void shape() {
    BallastLine x = new BallastLine();
    dueFinding(21, "shape(0, 0, 0)", x, NOTHING, had(x), x.shape(0, 0, 0));
    int[] beds = {3, -7, 4, 0, -20, 9, 9, 1, -1, 2};
    for (int i = 0; i < 10; i++) {
      x.bed(i, beds[i]);
    }
    int[] h = new int[10];
    x.level(0);
    for (int i = 0; i < 10; i++) {
      x.at(0, i);
      h[i] = (int) x.asked();
    }
    x.measure(0, 1);
    x.lay(0, 0, 77);
    x.lay(0, 9, 77);
    x.lay(0, 10, 77);
    x.lay(0, 39, 77);
    long told = x.asked();
    due(21, "shape(0, s0, s1)", x.shape(0, h[0], h[1]), 1);
    due(21, "asked()", x.asked(), told);
    dueRow(21, "shape tells THE RAIL", x, 0, h);
    x.line(3);
    layRow(x, 1, 5, 7, 6, 4, 3);
    due(21, "shape(1, -10000, 10000)", x.shape(1, -10000, 10000), 1);
    dueRow(21, "shape(1, -10000, 10000)", x, 1, -10000, 10000, 29993);
    shapeThatWraps();
    long before = x.digest();
    told = x.asked();
    int[][] bad = {{-1, 0, 0}, {6, 0, 0}, {1, 10001, 0}, {1, -10001, 0}, {1, 0, 10001}, {1, 0, -10001}, {0, MIN, 0},
        {0, 0, MAX}, {4, 10001, 0}};
    for (int[] b : bad) {
      dueRefused(21, "shape(" + b[0] + ", " + b[1] + ", " + b[2] + ")", x, before, told, x.shape(b[0], b[1], b[2]), BAD);
    }
  }

  private static void shapeThatWraps() {
    BallastLine x = new BallastLine();
    x.line(40);
    x.level(3);
    int[] row = new int[40];
    for (int i = 0; i < 40; i++) {
      row[i] = 100000 - i;
      x.lay(3, i, row[i]);
    }
    for (int n = 0; n < 3; n++) {
      x.shape(3, 1, -2);
      int[] next = new int[40];
      next[0] = 1;
      next[1] = -2;
      for (int i = 1; i <= 38; i++) {
        next[i + 1] = 2 * next[i] - next[i - 1] - row[i];
      }
      row = next;
    }
    dueRow(21, "ints that wrap", x, 3, row);
    long due = 0;
    int place = 0;
    for (int i = 0; i < 39; i++) {
      long step = Math.abs((long) row[i] - row[i + 1]);
      if (step > due) {
        due = step;
        place = i;
      }
    }
    due(25, "steps are above an int here", due > Integer.MAX_VALUE ? 1 : 0, 1);
    dueTold(25, "worst(3) of ints that wrap", x, x.worst(3), place, due);
  }

  private static void tear() {
    BallastLine x = new BallastLine();
    dueFinding(22, "tear(0)", x, NOTHING, had(x), x.tear(0));
    x.level(0);
    x.level(5);
    due(22, "tear(5)", x.tear(5), 1);
    due(22, "count(3)", x.count(3), 1);
    due(22, "at(5, 0)", x.at(5, 0), FINDING);
    due(22, "at(0, 0)", x.at(0, 0), 1);
    dueFinding(22, "tear(5) again", x, NOTHING, had(x), x.tear(5));
    long before = x.digest();
    for (int r : new int[] {-1, 6, MIN, MAX}) {
      dueRefused(22, "tear(" + r + ")", x, before, 0, x.tear(r), BAD);
    }
  }

  private static void copy() {
    BallastLine x = new BallastLine();
    layRow(x, 0, 1, 2, 3, 4, 5, 6);
    layRow(x, 1, 9, 9);
    long told = x.asked();
    due(23, "copy(0, 1, 1, 3, 2)", x.copy(0, 1, 1, 3, 2), 1);
    due(23, "asked()", x.asked(), told);
    dueRow(23, "copy(0, 1, 1, 3, 2)", x, 1, 9, 9, 0, 2, 3);
    due(23, "copy(0, 0, 0, 1, 4)", x.copy(0, 0, 0, 1, 4), 1);
    dueRow(23, "as if taken ahead", x, 0, 1, 1, 2, 3, 4, 6);
    due(23, "copy(0, 2, 0, 0, 4)", x.copy(0, 2, 0, 0, 4), 1);
    dueRow(23, "as if taken ahead", x, 0, 2, 3, 4, 6, 4, 6);
    due(23, "copy(0, 0, 1, 0, 40)", x.copy(0, 0, 1, 0, 40), 1);
    dueRow(23, "all 40", x, 1, 2, 3, 4, 6, 4, 6);
    long before = x.digest();
    due(23, "copy(0, 40, 1, 40, 0)", x.copy(0, 40, 1, 40, 0), 1);
    due(23, "copy(0, 0, 1, 0, 0)", x.copy(0, 0, 1, 0, 0), 1);
    due(23, "none copied", x.digest(), before);
    copyRefused();
  }

  private static void copyRefused() {
    BallastLine x = new BallastLine();
    x.level(0);
    x.level(1);
    long before = x.digest();
    int[][] beyond = {{0, 0, 41}, {1, 0, 40}, {0, 1, 40}, {39, 0, 2}, {0, 39, 2}, {-1, 0, 1}, {0, -1, 1}, {41, 0, 0},
        {0, 41, 0}, {-1, 0, 0}, {0, -1, 0}, {MAX, 0, MAX}, {0, MAX, MAX}, {MIN, 0, 1}, {0, MIN, 1}, {0, 0, MAX}, {2, 2, MAX}};
    for (int[] b : beyond) {
      String what = "copy(0, " + b[0] + ", 1, " + b[1] + ", " + b[2] + ")";
      dueFinding(23, what, x, BEYOND, had(x), x.copy(0, b[0], 1, b[1], b[2]));
    }
    dueFinding(23, "copy of -1", x, SIZE, had(x), x.copy(0, 0, 1, 0, -1));
    dueFinding(23, "copy of MIN", x, SIZE, had(x), x.copy(0, 0, 1, 0, MIN));
    dueFinding(23, "copy of -1, missing too", x, SIZE, had(x), x.copy(2, 50, 3, 50, -1));
    dueFinding(23, "copy of a missing one", x, NOTHING, had(x), x.copy(2, 50, 1, 0, 1));
    dueFinding(23, "copy to a missing one", x, NOTHING, had(x), x.copy(0, 50, 3, 0, 1));
    dueRefused(23, "copy", x, before, x.asked(), x.copy(0, 0, 0, 0, -1), FINDING);
    for (int r : new int[] {-1, 6, MIN, MAX}) {
      dueRefused(23, "copy(" + r + ", ..)", x, before, x.asked(), x.copy(r, 0, 0, 0, -1), BAD);
      dueRefused(23, "copy(0, 0, " + r + ", ..)", x, before, x.asked(), x.copy(0, 0, r, 0, -1), BAD);
    }
  }

  private static void fit() {
    BallastLine x = new BallastLine();
    long before = x.digest();
    dueRefused(24, "fit(0, 1) of 10", x, before, 0, x.fit(0, 1), STATE);
    dueRefused(24, "fit(0, 6) of 10", x, before, 0, x.fit(0, 6), BAD);
    x.line(11);
    dueFinding(24, "fit(0, 1)", x, NOTHING, had(x), x.fit(0, 1));
    x.level(0);
    dueFinding(24, "fit(0, 1)", x, NOTHING, had(x), x.fit(0, 1));
    dueFinding(24, "fit(1, 0)", x, NOTHING, had(x), x.fit(1, 0));
    // N 11: place 5 alone is compared.
    layRow(x, 0, 0, 0, 0, 0, 0, 50);
    layRow(x, 1, 47, 90, 90, 90, 90, 90, 90, 90, 90, 90, 54);
    dueTold(24, "fit(0, 1): the least", x, x.fit(0, 1), 95, 9);
    x.lay(1, 10, 53);
    dueTold(24, "fit(0, 1): of alike ones below 0", x, x.fit(0, 1), 95, 9);
    x.lay(1, 10, 51);
    dueTold(24, "fit(0, 1): 5 apart", x, x.fit(0, 1), 105, 1);
    x.lay(1, 6, 49);
    dueTold(24, "fit(0, 1): least apart from 0", x, x.fit(0, 1), 101, 1);
    x.lay(1, 4, 51);
    dueTold(24, "fit(0, 1): below 0", x, x.fit(0, 1), 99, 1);
    x.lay(1, 5, 51);
    dueTold(24, "fit(0, 1): 0", x, x.fit(0, 1), 100, 1);
    x.line(14);
    layRow(x, 2, 1, 2, 3, 4, 5, 6, 7, 8, 9, 10, 11, 12, 13, 14);
    layRow(x, 3, 4, 5, 6, 7, 8, 9, 10, 11, 12, 13, 14, 15, 16, 17);
    dueTold(24, "fit(2, 3)", x, x.fit(2, 3), 97, 0);
    dueTold(24, "fit(3, 2)", x, x.fit(3, 2), 103, 0);
    dueTold(24, "fit(2, 2)", x, x.fit(2, 2), 100, 0);
    // Places 5 .. 8: 6, 7, 8, 9 against one that is 20 more all over: nearest at -5.
    layRow(x, 3, 21, 22, 23, 24, 25, 26, 27, 28, 29, 30, 31, 32, 33, 34);
    dueTold(24, "fit(2, 3) far away", x, x.fit(2, 3), 95, 4 * 15 * 15);
    before = x.digest();
    for (int r : new int[] {-1, 6, MIN, MAX}) {
      dueRefused(24, "fit(" + r + ", 0)", x, before, 900, x.fit(r, 0), BAD);
      dueRefused(24, "fit(0, " + r + ")", x, before, 900, x.fit(0, r), BAD);
    }
    fitThatWraps();
  }

  private static void fitThatWraps() {
    // Differences of 2^32 - 1 in size: their squares wrap in a long, and a negative sum is the least.
    BallastLine x = new BallastLine();
    x.line(40);
    int[][] rows = new int[2][40];
    for (int r = 0; r < 2; r++) {
      x.level(r);
      for (int i = 0; i < 40; i++) {
        rows[r][i] = r == 0 ? 100000 : -99999 + 7 * i;
        x.lay(r, i, rows[r][i]);
      }
      for (int n = 0; n < 3; n++) {
        x.shape(r, 5, 6);
        int[] next = new int[40];
        next[0] = 5;
        next[1] = 6;
        for (int i = 1; i <= 38; i++) {
          next[i + 1] = 2 * next[i] - next[i - 1] - rows[r][i];
        }
        rows[r] = next;
      }
    }
    int[] order = {0, -1, 1, -2, 2, -3, 3, -4, 4, -5, 5};
    long least = Long.MAX_VALUE;
    int shift = 0;
    boolean below = false;
    for (int d : order) {
      long sum = 0;
      for (int i = 5; i <= 34; i++) {
        long apart = (long) rows[0][i] - (long) rows[1][i + d];
        sum += apart * apart;
      }
      below |= sum < 0;
      if (sum < least) {
        least = sum;
        shift = d;
      }
    }
    due(24, "some sum wrapped", below ? 1 : 0, 1);
    dueTold(24, "fit(0, 1) of longs that wrap", x, x.fit(0, 1), 100 + shift, least);
  }

  private static void worst() {
    BallastLine x = new BallastLine();
    dueFinding(25, "worst(0)", x, NOTHING, had(x), x.worst(0));
    x.level(0);
    dueTold(25, "worst(0): all alike", x, x.worst(0), 0, 0);
    layRow(x, 0, 1, 3, 5, 2, 5, 5, 8, 8, 8, 8, 99);
    dueTold(25, "worst(0): the first of alike", x, x.worst(0), 2, 3);
    x.lay(0, 9, 12);
    dueTold(25, "worst(0): at the end", x, x.worst(0), 8, 4);
    x.lay(0, 0, -2);
    dueTold(25, "worst(0): at the start", x, x.worst(0), 0, 5);
    x.lay(0, 1, 9);
    x.lay(0, 0, 9);
    x.lay(0, 2, 4);
    dueTold(25, "worst(0): at 1", x, x.worst(0), 1, 5);
    x.line(40);
    layRow(x, 5);
    x.lay(5, 39, -1);
    dueTold(25, "worst(5) of 40", x, x.worst(5), 38, 1);
    x.line(39);
    dueTold(25, "worst(5) of 39", x, x.worst(5), 0, 0);
    long before = x.digest();
    for (int r : new int[] {-1, 6, MIN, MAX}) {
      dueRefused(25, "worst(" + r + ")", x, before, 0, x.worst(r), BAD);
    }
  }

  private static void pull() {
    BallastLine x = new BallastLine();
    due(26, "pull(0, 500)", x.pull(0, 500), 1);
    due(26, "pull(3, -500)", x.pull(3, -500), 1);
    due(26, "pull(3, -500)", x.pull(3, -500), 1);
    due(26, "asked()", x.asked(), 0);
    dueTold(26, "cut(0, 0)", x, x.cut(0, 0), 1, 750);
    dueTold(26, "cut(1, 0)", x, x.cut(1, 0), 1, 250);
    dueTold(26, "cut(3, 0)", x, x.cut(3, 0), 1, -750);
    long before = x.digest();
    for (int s : new int[] {-1, 4, MIN, MAX}) {
      dueRefused(26, "pull(" + s + ", 1)", x, before, -750, x.pull(s, 1), BAD);
    }
    for (int n : new int[] {501, -501, MIN, MAX}) {
      dueRefused(26, "pull(0, " + n + ")", x, before, -750, x.pull(0, n), BAD);
    }
  }

  private static void cut() {
    BallastLine x = new BallastLine();
    dueTold(27, "cut(3, 600)", x, x.cut(3, 600), 1, 250);
    dueTold(27, "cut(3, -400)", x, x.cut(3, -400), 1, 600);
    dueTold(27, "cut(3, 1)", x, x.cut(3, 1), 1, -400);
    dueTold(27, "cut(0, 1)", x, x.cut(0, 1), 1, 250);
    long before = x.digest();
    for (int s : new int[] {-1, 4, MIN, MAX}) {
      dueRefused(27, "cut(" + s + ", 1)", x, before, 250, x.cut(s, 1), BAD);
    }
    for (int t : new int[] {601, -401, MIN, MAX}) {
      dueRefused(27, "cut(0, " + t + ")", x, before, 250, x.cut(0, t), BAD);
    }
  }

  private static void press() {
    BallastLine x = new BallastLine();
    dueTold(28, "press(0, 600)", x, x.press(0, 600), 1, 8400);
    dueTold(28, "press(3, -400)", x, x.press(3, -400), 1, -15600);
    dueTold(28, "press(1, 250)", x, x.press(1, 250), 1, 0);
    x.pull(1, 3);
    dueTold(28, "press(1, 250)", x, x.press(1, 250), 1, -72);
    x.cut(1, 200);
    dueTold(28, "press(1, 250)", x, x.press(1, 250), 1, 1200);
    long before = x.digest();
    for (int s : new int[] {-1, 4, MIN, MAX}) {
      dueRefused(28, "press(" + s + ", 1)", x, before, 1200, x.press(s, 1), BAD);
    }
    for (int t : new int[] {601, -401, MIN, MAX}) {
      dueRefused(28, "press(0, " + t + ")", x, before, 1200, x.press(0, t), BAD);
    }
  }

  private static void margin() {
    BallastLine x = new BallastLine();
    // Of 10: 0, 1; 2, 3; 4, 5; 6 to 9.
    dueTold(29, "margin(0, 250)", x, x.margin(0, 250), 0, 10500);
    x.stones(1, 9);
    x.stones(2, 8);
    x.stones(3, 9);
    x.stones(9, 2);
    dueTold(29, "margin(0, 250)", x, x.margin(0, 250), 0, 9000 + 300 * 7);
    dueTold(29, "margin(1, 250): the mean is cut", x, x.margin(1, 250), 0, 9000 + 300 * 8);
    dueTold(29, "margin(3, 250): the last has the rest", x, x.margin(3, 250), 0, 9000 + 300 * 4);
    x.lose(1, true);
    dueTold(29, "margin(0, 250): LOST ones aside", x, x.margin(0, 250), 0, 10500);
    x.lose(1, false);
    // A chord of 40 at 3; 1 and 2 lie on lines to 3, and so do 4 and 5.
    x.bed(3, 20);
    x.rail(4);
    due(29, "rail(4)", x.asked(), 15);
    long chord2 = 2 * rail(x, 2) - rail(x, 1) - rail(x, 3);
    long chord3 = 2 * rail(x, 3) - rail(x, 2) - rail(x, 4);
    dueTold(29, "margin(1, 250)", x, x.margin(1, 250), 0, 11400 - 60 * Math.max(Math.abs(chord2), Math.abs(chord3)));
    marginWithin();
    marginAtItsEdge();
    x = new BallastLine();
    x.lose(2, true);
    x.lose(3, true);
    x.press(0, 260);
    long before = x.digest();
    dueFinding(29, "margin(1, 250)", x, NOUGHT, had(x), x.margin(1, 250));
    dueRefused(29, "margin(1, 250)", x, before, 240, x.margin(1, 250), FINDING);
    for (int s : new int[] {-1, 4, MIN, MAX}) {
      dueRefused(29, "margin(" + s + ", 1)", x, before, 240, x.margin(s, 1), BAD);
    }
    for (int t : new int[] {601, -401, MIN, MAX}) {
      dueRefused(29, "margin(1, " + t + ")", x, before, 240, x.margin(1, t), BAD);
    }
    x.line(3);
    for (int s = 0; s < 3; s++) {
      dueFinding(29, "margin(" + s + ", 0) of 3 SLEEPERS", x, NOUGHT, had(x), x.margin(s, 0));
    }
    dueTold(29, "margin(3, 250) of 3 SLEEPERS", x, x.margin(3, 250), 0, 10500);
  }

  private static long rail(BallastLine x, int i) {
    x.rail(i);
    return x.asked();
  }

  private static void marginWithin() {
    // Of 8: 0, 1; 2, 3; .. A chord at a stretch's last SLEEPER reaches beyond it.
    BallastLine x = withBeds(0, 0, 0, 0, 0, 0, 0, 0);
    x.bed(0, 40);
    // THE RAIL: 40, 30, 20, 10, 0, ..: a chord of -10 at 4 alone.
    dueTold(29, "margin(0, 250)", x, x.margin(0, 250), 0, 10500);
    dueTold(29, "margin(1, 250)", x, x.margin(1, 250), 0, 10500);
    dueTold(29, "margin(2, 250): without sign", x, x.margin(2, 250), 0, 9900);
    dueTold(29, "margin(3, 250)", x, x.margin(3, 250), 0, 10500);
    // A peak at 1, the last one of its stretch: THE RAIL at 0, 40, 30, 20, 10, 0, 0, 0.
    x = withBeds(0, 40, 0, 0, 0, 0, 0, 0);
    dueTold(29, "margin(0, 250): at 1, its last", x, x.margin(0, 250), 0, 10500 - 60 * 50);
    dueTold(29, "margin(1, 250): none of its own", x, x.margin(1, 250), 0, 10500);
    dueTold(29, "margin(2, 250): at 5", x, x.margin(2, 250), 0, 10500 - 60 * 10);
    // A peak at 3: 0, 13, 26, 40, 30, 20, 10, 0.
    x = withBeds(0, 0, 0, 40, 0, 0, 0, 0);
    dueTold(29, "margin(0, 250)", x, x.margin(0, 250), 0, 10500);
    dueTold(29, "margin(1, 250): at 3, its last", x, x.margin(1, 250), 0, 10500 - 60 * 24);
    dueTold(29, "margin(2, 250)", x, x.margin(2, 250), 0, 10500);
    // A chord at a LOST SLEEPER is within, too: no line spans 4 .. 8, and THE RAIL steps from 6 to 7.
    x.line(20);
    x.bed(3, 100);
    for (int i = 4; i <= 8; i++) {
      x.lose(i, true);
    }
    dueTold(29, "margin(1, 250): LOST ones' chords", x, x.margin(1, 250), 0, 10500 - 60 * 100);
  }

  private static void marginAtItsEdge() {
    // 10500 is 437.5 times 24: 9600 of 300 more for STONES 2 less the press of 400.
    BallastLine x = new BallastLine();
    for (int i = 0; i < 10; i++) {
      x.stones(i, 2);
    }
    x.cut(2, 200);
    dueTold(29, "margin(2, 600): just at 0", x, x.margin(2, 600), 1, 0);
    dueTold(29, "margin(2, 599)", x, x.margin(2, 599), 0, 24);
    x.pull(2, -1);
    dueTold(29, "margin(2, 600)", x, x.margin(2, 600), 1, -24);
    dueTold(29, "margin(2, -400): a pull", x, x.margin(2, -400), 0, 9600 + 599 * 24);
  }

  private static void work() {
    BallastLine x = new BallastLine();
    long before = x.digest();
    int[][] bad = {{0, 1}, {1001, 1}, {-1, 1}, {1, -1}, {1, 1001}, {MIN, 1}, {MAX, 1}, {1, MIN}, {1, MAX}};
    for (int[] b : bad) {
      dueRefused(30, "work(" + b[0] + ", " + b[1] + ")", x, before, 0, x.work(b[0], b[1]), BAD);
    }
    due(30, "work(1, 0)", x.work(1, 0), 0);
    due(30, "work(1000, 1000)", x.work(1000, 1000), 1);
    for (int n = 2; n < 14; n++) {
      due(30, "work(5, 5)", x.work(5, 5), n);
    }
    before = x.digest();
    dueRefused(30, "work(1, 1)", x, before, 0, x.work(1, 1), FULL);
    dueRefused(30, "work(0, 1)", x, before, 0, x.work(0, 1), BAD);
    due(30, "count(4)", x.count(4), 14);
  }

  private static void best() {
    BallastLine x = new BallastLine();
    dueTold(31, "best(0)", x, x.best(0), 0, 0);
    x.work(1, 0);
    dueTold(31, "best(5): none without gain", x, x.best(5), 0, 0);
    x.work(1, 1);
    dueTold(31, "best(5)", x, x.best(5), 1, 2);
    x = new BallastLine();
    x.work(10, 60);
    x.work(20, 100);
    x.work(30, 120);
    dueTold(31, "best(50)", x, x.best(50), 220, 6);
    dueTold(31, "best(49)", x, x.best(49), 180, 5);
    dueTold(31, "best(9)", x, x.best(9), 0, 0);
    dueTold(31, "best(60)", x, x.best(60), 280, 7);
    x = new BallastLine();
    x.work(9, 50);
    x.work(5, 20);
    x.work(3, 30);
    x.work(2, 0);
    dueTold(31, "best(9): the least cost of like gains", x, x.best(9), 50, 6);
    x = new BallastLine();
    x.work(4, 7);
    x.work(3, 5);
    x.work(1, 2);
    x.work(4, 7);
    dueTold(31, "best(4): the least bits of like costs", x, x.best(4), 7, 1);
    dueTold(31, "best(8)", x, x.best(8), 14, 7);
    dueTold(31, "best(7)", x, x.best(7), 12, 3);
    for (int n = 4; n < 14; n++) {
      x.work(1000, 1000);
    }
    dueTold(31, "best(14000)", x, x.best(14000), 10021, 16383);
    dueTold(31, "best(10000)", x, x.best(10000), 10000, 16368);
    dueTold(31, "best(9999)", x, x.best(9999), 9021, 8191);
    long before = x.digest();
    for (int b : new int[] {-1, 14001, MIN, MAX}) {
      dueRefused(31, "best(" + b + ")", x, before, 8191, x.best(b), BAD);
    }
  }

  private static void first() {
    BallastLine x = new BallastLine();
    dueTold(32, "first(0)", x, x.first(0), 0, 0);
    x.work(20, 100);
    x.work(30, 120);
    x.work(10, 60);
    dueTold(32, "first(50)", x, x.first(50), 160, 5);
    dueTold(32, "first(40): each that still fits", x, x.first(40), 160, 5);
    dueTold(32, "first(29)", x, x.first(29), 60, 4);
    dueTold(32, "first(60)", x, x.first(60), 280, 7);
    dueTold(32, "first(9)", x, x.first(9), 0, 0);
    x.work(5, 0);
    dueTold(32, "first(55): one without gain, too", x, x.first(55), 160, 13);
    x = new BallastLine();
    x.work(2, 3);
    x.work(4, 6);
    x.work(3, 5);
    x.work(2, 3);
    dueTold(32, "first(3)", x, x.first(3), 5, 4);
    dueTold(32, "first(5): of like ones the least", x, x.first(5), 8, 5);
    dueTold(32, "first(2): of like ones the least", x, x.first(2), 3, 1);
    dueTold(32, "first(8): 3, 2, then 2", x, x.first(8), 11, 13);
    dueTold(32, "first(14000)", x, x.first(14000), 17, 15);
    // Fractions that a division would call alike.
    x = new BallastLine();
    x.work(1000, 999);
    x.work(999, 998);
    x.work(998, 998);
    dueTold(32, "first(1000)", x, x.first(1000), 998, 4);
    dueTold(32, "first(1997)", x, x.first(1997), 1996, 6);
    dueTold(32, "first(1998)", x, x.first(1998), 1997, 5);
    long before = x.digest();
    for (int b : new int[] {-1, 14001, MIN, MAX}) {
      dueRefused(32, "first(" + b + ")", x, before, 5, x.first(b), BAD);
    }
  }

  private static void asked() {
    BallastLine x = new BallastLine();
    due(33, "asked()", x.asked(), 0);
    x.line(12);
    x.bed(1, -11);
    x.bed(1, -12);
    due(33, "bed", x.asked(), -11);
    x.mean();
    due(33, "mean", x.asked(), -1);
    x.bed(0, 0);
    x.rail(1);
    due(33, "rail", x.asked(), 0);
    x.level(0);
    x.lay(0, 5, 5);
    x.lay(0, 5, 6);
    due(33, "lay", x.asked(), 5);
    x.at(0, 5);
    due(33, "at", x.asked(), 6);
    // What else is called leaves it.
    x.sleeper(1, 1);
    x.lose(2, true);
    x.lose(2, false);
    x.stones(1, 3);
    x.told(1, 1);
    x.mark(1, 1);
    x.gap(1);
    x.axle(3);
    x.table(1, 1);
    x.pass(1);
    x.uncouple();
    x.lift(0, 1, 9);
    x.measure(1, 1);
    x.level(2);
    x.shape(1, 3, 4);
    x.copy(0, 0, 2, 0, 3);
    x.tear(2);
    x.pull(1, 4);
    x.work(3, 4);
    x.count(0);
    x.finding();
    x.findings(1);
    x.digest();
    due(33, "the others", x.asked(), 6);
    x.cut(1, 5);
    due(33, "cut", x.asked(), 254);
    x.press(1, 6);
    due(33, "press", x.asked(), 24);
    x.margin(3, 250);
    due(33, "margin", x.asked(), 10500);
    x.best(3);
    due(33, "best", x.asked(), 1);
    x.first(2);
    due(33, "first", x.asked(), 0);
    x.worst(0);
    due(33, "worst", x.asked(), 6);
    x.fit(0, 0);
    due(33, "fit", x.asked(), 0);
    x.line(11);
    due(33, "line", x.asked(), 0);
  }

  private static void count() {
    BallastLine x = new BallastLine();
    x.line(33);
    x.lose(0, true);
    x.lose(32, true);
    x.axle(1);
    x.axle(1);
    x.axle(1);
    for (int r = 2; r < 6; r++) {
      x.level(r);
    }
    for (int n = 0; n < 5; n++) {
      x.work(1, 1);
    }
    due(34, "count(0)", x.count(0), 33);
    due(34, "count(1)", x.count(1), 2);
    due(34, "count(2)", x.count(2), 3);
    due(34, "count(3)", x.count(3), 4);
    due(34, "count(4)", x.count(4), 5);
    for (int what : new int[] {-1, 5, MIN, MAX}) {
      due(34, "count(" + what + ")", x.count(what), BAD);
    }
  }

  private static void finding() {
    BallastLine x = new BallastLine();
    due(35, "finding()", x.finding(), 0);
    x.at(0, 0);
    due(35, "finding()", x.finding(), NOTHING);
    x.level(0);
    x.at(0, 40);
    due(35, "finding()", x.finding(), BEYOND);
    x.mark(0, 1);
    due(35, "finding()", x.finding(), UNLIKE);
    x.copy(0, 0, 0, 0, -1);
    due(35, "finding()", x.finding(), SIZE);
    x.line(3);
    x.margin(0, 0);
    due(35, "finding()", x.finding(), NOUGHT);
    x.at(6, 0);
    x.fit(0, 0);
    x.pass(1);
    x.at(0, 0);
    x.line(4);
    due(35, "finding() after BAD, STATE and others", x.finding(), NOUGHT);
    x.tear(1);
    due(35, "finding()", x.finding(), NOTHING);
  }

  private static void findings() {
    BallastLine x = new BallastLine();
    for (int f = 1; f <= 5; f++) {
      due(36, "findings(" + f + ")", x.findings(f), 0);
    }
    for (int n = 0; n < 6; n++) {
      x.at(0, 0);
    }
    x.level(0);
    for (int n = 0; n < 5; n++) {
      x.lay(0, -1, 0);
    }
    for (int n = 0; n < 4; n++) {
      x.mark(0, 2);
    }
    for (int n = 0; n < 3; n++) {
      x.copy(0, 0, 0, 0, -5);
    }
    for (int i = 0; i < 10; i++) {
      x.lose(i, true);
    }
    x.mean();
    x.margin(0, 0);
    int[] want = {0, 6, 5, 4, 2, 3};
    for (int f = 1; f <= 5; f++) {
      due(36, "findings(" + f + ")", x.findings(f), want[f]);
    }
    for (int f : new int[] {0, -1, 6, MIN, MAX}) {
      due(36, "findings(" + f + ")", x.findings(f), BAD);
    }
    x.line(10);
    due(36, "findings(1) after line", x.findings(1), 6);
  }

  private static void digest() {
    BallastLine x = new BallastLine();
    long h = 17;
    h = on(on(on(on(on(h, 10), 0), 0), 0), 0);
    for (int i = 0; i < 10; i++) {
      h = on(on(on(on(on(h, 0), 5), 0), 0), 0);
    }
    for (int s = 0; s < 4; s++) {
      h = on(h, 250);
    }
    for (int r = 0; r < 6; r++) {
      h = on(h, -1);
    }
    due(37, "digest() of a new object", x.digest(), h);
    due(37, "digest() again", x.digest(), h);
    x.line(3);
    x.bed(0, -7);
    x.bed(2, 8);
    x.sleeper(1, 2);
    x.stones(1, 6);
    x.axle(10);
    x.axle(1);
    fillTable(x, 3);
    x.pass(1);
    x.lose(2, true);
    x.level(4);
    x.lay(4, 39, -50);
    x.work(1, 1);
    x.work(1, 1);
    x.pull(0, 5);
    x.cut(3, -6);
    h = 17;
    h = on(on(on(on(on(h, 3), 1), 2), 1), 2);
    int[] beds = {-7, 0, 8};
    for (int i = 0; i < 3; i++) {
      for (int what = 0; what < 4; what++) {
        h = on(h, x.told(i, what));
      }
      h = on(h, beds[i]);
    }
    h = on(on(on(on(h, 255), 250), 250), -6);
    for (int r = 0; r < 6; r++) {
      if (r != 4) {
        h = on(h, -1);
        continue;
      }
      for (int i = 0; i < 40; i++) {
        x.at(4, i);
        h = on(h, x.asked());
      }
    }
    due(37, "digest()", x.digest(), h);
  }

  public static void main(String[] args) {
    aNewObject();
    line();
    sleeper();
    lose();
    bed();
    stones();
    told();
    mark();
    rail();
    gap();
    axle();
    uncouple();
    table();
    pass();
    mean();
    lift();
    measure();
    level();
    lay();
    at();
    shape();
    tear();
    copy();
    fit();
    worst();
    pull();
    cut();
    press();
    margin();
    work();
    best();
    first();
    asked();
    count();
    finding();
    findings();
    digest();
    System.out.println(wrong == 0 ? "every promise holds" : wrong + " answers are not as due");
    if (wrong != 0) {
      System.exit(1);
    }
  }
}
