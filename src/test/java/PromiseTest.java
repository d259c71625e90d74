/** Every promise of the document by hand: ordinary inputs, the edges that it names, wrong inputs. */
public final class PromiseTest {
    private interface Call {
        long run();
    }

    private static final String NOTHING = "nothing";
    private static final String INDEX = "IndexOutOfBoundsException";
    private static final String ARGUMENT = "IllegalArgumentException";
    private static final String STATE = "IllegalStateException";

    private static int wrong = 0;
    private static String promise = "";

    public static void main(String[] args) {
        newObject();
        appending();
        clearing();
        errorPositions();
        loading();
        numbersOfAll();
        numbersOfCells();
        numbersOfWorkers();
        numbersOfWorks();
        entries();
        beginning();
        writing();
        settingPoints();
        goingBack();
        regretting();
        endingWell();
        failing();
        mercies();
        undoing();
        reasons();
        whatFailuresLeave();
        whatFailuresChange();
        whatIsLost();
        mercyThatIsLeft();
        scripts();
        scriptsThatFail();
        simulations();
        saving();
        restoring();
        System.out.println(wrong == 0 ? "PromiseTest: all answers are as due" : "PromiseTest: " + wrong + " wrong");
        if (wrong != 0) {
            System.exit(1);
        }
    }

    // ---- helpers

    private static void due(String call, long want, Call run) {
        String thrown = NOTHING;
        long got = 0;
        try {
            got = run.run();
        } catch (RuntimeException e) {
            thrown = e.getClass().getSimpleName();
        }
        if (!thrown.equals(NOTHING) || got != want) {
            wrong++;
            System.out.println(promise + ": " + call + " answered " + got + " and threw " + thrown + ", due is " + want);
        }
    }

    private static void dueThrow(String call, String want, Call run) {
        String thrown = NOTHING;
        try {
            run.run();
        } catch (RuntimeException e) {
            thrown = e.getClass().getSimpleName();
        }
        if (!thrown.equals(want)) {
            wrong++;
            System.out.println(promise + ": " + call + " threw " + thrown + ", due is " + want);
        }
    }

    private static void type(ForgivenWork x, String text) {
        x.clearText();
        for (int k = 0; k < text.length(); k++) {
            x.append(text.charAt(k));
        }
    }

    private static ForgivenWork loaded(String text) {
        ForgivenWork x = new ForgivenWork();
        type(x, text);
        x.load();
        return x;
    }

    /** Everything that can be seen, so that "changes nothing" can be looked at. */
    private static String seen(ForgivenWork x) {
        StringBuilder all = new StringBuilder();
        for (int what = 0; what <= 9; what++) {
            all.append(x.about(what)).append(' ');
        }
        for (int c = 0; c < 16; c++) {
            all.append(x.cell(c, 0)).append('/').append(x.cell(c, 1)).append('/').append(x.cell(c, 2)).append(' ');
        }
        for (int w = 0; w < 3; w++) {
            for (int what = 0; what <= 5; what++) {
                all.append(x.worker(w, what)).append(' ');
            }
            for (int i = 0; i < x.worker(w, 0); i++) {
                for (int what = 0; what <= 4; what++) {
                    all.append(x.work(w, i, what)).append(' ');
                }
            }
            for (int k = 0; k < x.worker(w, 1); k++) {
                all.append(x.entry(w, k)).append(' ');
            }
        }
        return all.toString();
    }

    private static void same(String call, String before, String after) {
        if (!before.equals(after)) {
            wrong++;
            System.out.println(promise + ": " + call + " changed\n " + before + "\n to\n " + after);
        }
    }

    // ---- the promises

    private static void newObject() {
        promise = "1 new object";
        ForgivenWork x = new ForgivenWork();
        for (int what = 0; what <= 9; what++) {
            int number = what;
            due("about(" + what + ")", what == 7 ? 1 : 0, () -> x.about(number));
        }
        for (int c = 0; c < 16; c++) {
            int cell = c;
            due("cell(" + c + ", 0)", 0, () -> x.cell(cell, 0));
            due("cell(" + c + ", 1)", -1, () -> x.cell(cell, 1));
            due("cell(" + c + ", 2)", 0, () -> x.cell(cell, 2));
        }
        for (int w = 0; w < 3; w++) {
            int worker = w;
            for (int what = 0; what <= 5; what++) {
                int number = what;
                due("worker(" + w + ", " + what + ")", 0, () -> x.worker(worker, number));
            }
            dueThrow("work(" + w + ", 0, 0)", INDEX, () -> x.work(worker, 0, 0));
        }
        due("clearText()", 0, x::clearText);
        dueThrow("undo()", STATE, x::undo);
        dueThrow("restore(0)", STATE, () -> x.restore(0));
        dueThrow("restore(1)", STATE, () -> x.restore(1));
        due("NONE", -1, () -> ForgivenWork.NONE);
    }

    private static void appending() {
        promise = "2 append";
        ForgivenWork x = new ForgivenWork();
        due("append(0)", 1, () -> x.append(0));
        due("append(255)", 2, () -> x.append(255));
        dueThrow("append(-1)", ARGUMENT, () -> x.append(-1));
        dueThrow("append(256)", ARGUMENT, () -> x.append(256));
        for (int k = 3; k <= 120; k++) {
            due("append('W')", k, () -> x.append('W'));
        }
        dueThrow("append at 120", STATE, () -> x.append('W'));
        dueThrow("append(256) at 120", ARGUMENT, () -> x.append(256));
        dueThrow("append(-1) at 120", ARGUMENT, () -> x.append(-1));
        due("clearText()", 120, x::clearText);
    }

    private static void clearing() {
        promise = "3 clearText";
        ForgivenWork x = new ForgivenWork();
        type(x, "Wb0");
        due("clearText()", 3, x::clearText);
        due("clearText() again", 0, x::clearText);
        due("errorPosition()", 0, x::errorPosition);
        due("append", 1, () -> x.append('W'));
        due("errorPosition()", -1, x::errorPosition);
    }

    private static void errorPositions() {
        promise = "4 errorPosition";
        String[] texts = {
            "", "W", "w", "WW", "Wb", "Wb0", "Wb2", "Wb3", "Wb/", "Wb:", "W b0", "Wb0 ", "Wp1", "Wd2", "Wf3", "Wx0",
            "Ws0", "Ws00", "Ws000", "Ws0000", "Ws00000", "Ws009", "Ws0099", "Ws015", "Ws01599", "Ws016", "Ws02",
            "Ws3", "Ws0a", "Ws00a", "Ws000a", "Ws0000a", "Ws00000s", "Ws01000",
            "Wg00001", "Wg00000", "Wg0000", "Wg00010", "Wg00099", "Wg00100", "Wg2159", "Wg21599", "Wg21600",
            "Wr0", "Wr00", "Wr03", "Wr04", "Wr3", "Wm", "Wm0", "Wm3", "Wm4", "Wm00", "Wmb", "Wm3b0s01599f0", "Wb0W",
        };
        int[] positions = {
            0, -1, 0, 1, 2, -1, -1, 2, 2, 2, 1, 3, -1, -1, 2, 1,
            3, 4, 5, 6, -1, 5, 6, 5, -1, 4, 3,
            2, 3, 4, 5, 6, 8, -1,
            -1, 6, 6, -1, -1, 6, 6, -1, 4,
            3, -1, -1, 3, 2, 2, -1, -1, 2, 3, 2, -1, 3,
        };
        for (int k = 0; k < texts.length; k++) {
            ForgivenWork x = new ForgivenWork();
            type(x, texts[k]);
            due("errorPosition of \"" + texts[k] + "\"", positions[k], x::errorPosition);
        }
        ForgivenWork y = new ForgivenWork();
        y.append('W');
        y.append('b');
        y.append(178);
        due("errorPosition behind code 178", 2, y::errorPosition);
    }

    private static void loading() {
        promise = "5 load";
        ForgivenWork x = new ForgivenWork();
        dueThrow("load() of nothing", STATE, x::load);
        x.begin(0);
        x.write(0, 3, 9);
        x.setMercy(3);
        x.save(0);
        x.save(1);
        type(x, "Wb3");
        String before = seen(x);
        dueThrow("load() of no story", STATE, x::load);
        same("load() of no story", before, seen(x));
        due("restore(1)", 9, () -> x.restore(1));

        type(x, "Wb1s10507g10620b1s10711f1");
        due("load()", 0, x::load);
        due("cell(3, 0)", 0, () -> x.cell(3, 0));
        due("cell(5, 0)", 7, () -> x.cell(5, 0));
        due("cell(7, 0)", 0, () -> x.cell(7, 0));
        due("cell(7, 1)", 1, () -> x.cell(7, 1));
        due("about(5)", 1, () -> x.about(5));
        due("about(7)", 1, () -> x.about(7));
        due("about(8)", 2, () -> x.about(8));
        dueThrow("undo()", STATE, x::undo);
        dueThrow("restore(0)", STATE, () -> x.restore(0));
        dueThrow("restore(1)", STATE, () -> x.restore(1));
        due("clearText()", 25, x::clearText);

        type(x, "Wd0f0p0r00s00101g00101b0s00101s10102m2g10101r00p0r00r01");
        due("load() with commands left out", 10, x::load);
        due("about(7)", 2, () -> x.about(7));
        due("cell(1, 0)", 1, () -> x.cell(1, 0));
        x.setMercy(0);
        x.done(0);
        x.begin(2);
        x.regret(2, 15, 5);
        x.fail(2);
        x.begin(2);
        x.point(2);
        x.begin(2);
        x.fail(2);
        type(x, "W");
        due("load() of W", 0, x::load);
        same("load() of W", seen(new ForgivenWork()), seen(x));
        dueThrow("undo() of what was before load()", STATE, x::undo);
        x.begin(2);
        due("points behind load()", 0, () -> x.work(2, 0, 1));
        due("point(2) behind load()", 0, () -> x.point(2));
        loadingOverFullWorks();
        loadingManyTimes();
    }

    /** Nothing of a story may be left behind when it is loaded again, as often as 512 calls allow. */
    private static void loadingManyTimes() {
        ForgivenWork x = new ForgivenWork();
        String six = "g00101g00202g00303g00404g00505g00606";
        type(x, "Wb0" + six + "b0" + six + "b0" + six);
        due("load()", 0, x::load);
        String once = seen(x);
        for (int k = 0; k < 380; k++) {
            x.load();
        }
        same("load() for the 380th time", once, seen(x));
        due("failed(0, 6, 3)", 6, () -> x.failed(0, 6, 3));
    }

    private static void loadingOverFullWorks() {
        ForgivenWork x = new ForgivenWork();
        type(x, "W");
        for (int times = 0; times < 3; times++) {
            for (int k = 0; k < 20; k++) {
                if (k % 4 == 0) {
                    x.begin(0);
                }
                x.write(0, k % 16, k);
                int number = k % 4;
                due("point(0)", number, () -> x.point(0));
            }
            due("lost(0, 2)", 1, () -> x.lost(0, 2));
            due("back(0, 0) of the fifth work", 3, () -> x.back(0, 0));
            due("load()", 0, x::load);
        }
    }

    private static void numbersOfAll() {
        promise = "6 about";
        ForgivenWork x = loaded("Wb0s00040s00130g00205b0g00307f0b0f0b1b1d1d1b2f2b2s20499");
        int[] want = {176, 5, 2, 1, 1, 1, 1, 1, 3, 1};
        for (int what = 0; what <= 9; what++) {
            int number = what;
            due("about(" + what + ")", want[what], () -> x.about(number));
        }
        dueThrow("about(-1)", ARGUMENT, () -> x.about(-1));
        dueThrow("about(10)", ARGUMENT, () -> x.about(10));
        dueThrow("about(min)", ARGUMENT, () -> x.about(Integer.MIN_VALUE));
        ForgivenWork y = loaded("Wb0p0s00040r00");
        due("about(8) counts what is undone", 1, () -> y.about(8));
        due("about(0)", 0, () -> y.about(0));
    }

    private static void numbersOfCells() {
        promise = "7 cell";
        ForgivenWork x = loaded("Wb0s01550d0b0s01551s01552s00101g00205");
        due("cell(15, 0)", 52, () -> x.cell(15, 0));
        due("cell(15, 1)", 0, () -> x.cell(15, 1));
        due("cell(15, 2)", 50, () -> x.cell(15, 2));
        due("cell(2, 1)", 0, () -> x.cell(2, 1));
        due("cell(2, 2) locked without an entry", 0, () -> x.cell(2, 2));
        due("cell(3, 1)", -1, () -> x.cell(3, 1));
        x.done(0);
        due("cell(15, 1)", -1, () -> x.cell(15, 1));
        due("cell(15, 2)", 52, () -> x.cell(15, 2));
        dueThrow("cell(-1, 0)", INDEX, () -> x.cell(-1, 0));
        dueThrow("cell(16, 0)", INDEX, () -> x.cell(16, 0));
        dueThrow("cell(16, 3)", INDEX, () -> x.cell(16, 3));
        dueThrow("cell(0, -1)", ARGUMENT, () -> x.cell(0, -1));
        dueThrow("cell(0, 3)", ARGUMENT, () -> x.cell(0, 3));
    }

    private static void numbersOfWorkers() {
        promise = "8 worker";
        ForgivenWork x = loaded("Wb2d2b2d2b2f2m0b2s20105s20106g20301b2g20402f2");
        int[] want = {1, 3, 3, 2, 1, 1};
        for (int what = 0; what <= 5; what++) {
            int number = what;
            due("worker(2, " + what + ")", want[what], () -> x.worker(2, number));
            due("worker(0, " + what + ")", 0, () -> x.worker(0, number));
        }
        dueThrow("worker(-1, 0)", INDEX, () -> x.worker(-1, 0));
        dueThrow("worker(3, 6)", INDEX, () -> x.worker(3, 6));
        dueThrow("worker(0, -1)", ARGUMENT, () -> x.worker(0, -1));
        dueThrow("worker(0, 6)", ARGUMENT, () -> x.worker(0, 6));
    }

    private static void numbersOfWorks() {
        promise = "9 work";
        ForgivenWork x = loaded("Wb1s10001s10002p1p1g10003b1f1b1s10104p1g10105g10206b1f1b1f1");
        int[] outer = {0, 2, 1, 1, 0};
        int[] inner = {2, 1, 2, 1, 1};
        for (int what = 0; what <= 4; what++) {
            int number = what;
            due("work(1, 0, " + what + ")", outer[what], () -> x.work(1, 0, number));
            due("work(1, 1, " + what + ")", inner[what], () -> x.work(1, 1, number));
        }
        dueThrow("work(1, 2, 0)", INDEX, () -> x.work(1, 2, 0));
        dueThrow("work(1, -1, 0)", INDEX, () -> x.work(1, -1, 0));
        dueThrow("work(0, 0, 5)", INDEX, () -> x.work(0, 0, 5));
        dueThrow("work(3, 0, 0)", INDEX, () -> x.work(3, 0, 0));
        dueThrow("work(-1, 0, 0)", INDEX, () -> x.work(-1, 0, 0));
        dueThrow("work(1, max, 0)", INDEX, () -> x.work(1, Integer.MAX_VALUE, 0));
        dueThrow("work(1, 0, 5)", ARGUMENT, () -> x.work(1, 0, 5));
        dueThrow("work(1, 0, -1)", ARGUMENT, () -> x.work(1, 0, -1));
    }

    private static void entries() {
        promise = "10 entry";
        ForgivenWork x = loaded("Wb0s00133s01544s00155");
        due("entry(0, 0)", 133, () -> x.entry(0, 0));
        due("entry(0, 1)", 1500, () -> x.entry(0, 1));
        due("entry(0, 2)", 100, () -> x.entry(0, 2));
        due("entry(0, 3)", -1, () -> x.entry(0, 3));
        due("entry(0, max)", -1, () -> x.entry(0, Integer.MAX_VALUE));
        due("entry(1, 0)", -1, () -> x.entry(1, 0));
        dueThrow("entry(0, -1)", ARGUMENT, () -> x.entry(0, -1));
        dueThrow("entry(0, min)", ARGUMENT, () -> x.entry(0, Integer.MIN_VALUE));
        dueThrow("entry(3, -1)", INDEX, () -> x.entry(3, -1));
        dueThrow("entry(-1, 0)", INDEX, () -> x.entry(-1, 0));
    }

    private static void beginning() {
        promise = "11 begin";
        ForgivenWork x = new ForgivenWork();
        for (int k = 1; k <= 5; k++) {
            due("begin(0)", k, () -> x.begin(0));
        }
        dueThrow("begin(0) at 5", STATE, () -> x.begin(0));
        due("begin(2)", 1, () -> x.begin(2));
        dueThrow("begin(-1)", INDEX, () -> x.begin(-1));
        dueThrow("begin(3)", INDEX, () -> x.begin(3));
        ForgivenWork y = loaded("Wm0b0b0f0");
        String before = seen(y);
        dueThrow("begin(0) in a spoiled work", STATE, () -> y.begin(0));
        same("begin(0) that throws", before, seen(y));
        dueThrow("undo() behind it", STATE, y::undo);
        ForgivenWork z = loaded("Wb0s00101p0g00202b0");
        due("a new work's log", 1, () -> z.work(0, 1, 0));
        due("a new work's points", 0, () -> z.work(0, 1, 1));
        due("a new work's regrets", 0, () -> z.work(0, 1, 2));
    }

    private static void writing() {
        promise = "12 write";
        ForgivenWork x = new ForgivenWork();
        dueThrow("write without a work", STATE, () -> x.write(0, 0, 0));
        dueThrow("write(0, 0, 100) without a work", ARGUMENT, () -> x.write(0, 0, 100));
        dueThrow("write(0, 16, 100)", INDEX, () -> x.write(0, 16, 100));
        dueThrow("write(0, -1, 0)", INDEX, () -> x.write(0, -1, 0));
        dueThrow("write(3, 0, 0)", INDEX, () -> x.write(3, 0, 0));
        dueThrow("write(-1, 0, -1)", INDEX, () -> x.write(-1, 0, -1));
        dueThrow("write(0, 0, -1)", ARGUMENT, () -> x.write(0, 0, -1));
        x.begin(0);
        due("write(0, 15, 99)", 0, () -> x.write(0, 15, 99));
        due("write(0, 15, 0)", 99, () -> x.write(0, 15, 0));
        due("cell(15, 0)", 0, () -> x.cell(15, 0));
        due("cell(15, 1)", 0, () -> x.cell(15, 1));
        x.begin(1);
        dueThrow("write of a locked cell", STATE, () -> x.write(1, 15, 1));
        for (int k = 3; k <= 40; k++) {
            x.write(0, 1, k);
        }
        due("worker(0, 1)", 40, () -> x.worker(0, 1));
        dueThrow("write into a full log", STATE, () -> x.write(0, 1, 1));
        due("about(8)", 40, () -> x.about(8));
        ForgivenWork y = loaded("Wm0b0b0f0");
        dueThrow("write in a spoiled work", STATE, () -> y.write(0, 1, 1));
    }

    private static void settingPoints() {
        promise = "13 point";
        ForgivenWork x = new ForgivenWork();
        dueThrow("point(0) without a work", STATE, () -> x.point(0));
        dueThrow("point(3)", INDEX, () -> x.point(3));
        dueThrow("point(-1)", INDEX, () -> x.point(-1));
        x.begin(0);
        for (int k = 0; k < 4; k++) {
            due("point(0)", k, () -> x.point(0));
        }
        dueThrow("point(0) at 4", STATE, () -> x.point(0));
        x.begin(0);
        due("point(0) of an inner work", 0, () -> x.point(0));
        x.setMercy(0);
        x.begin(0);
        x.fail(0);
        dueThrow("point(0) of a spoiled work", STATE, () -> x.point(0));
        x.fail(0);
        x.fail(0);
        x.begin(0);
        due("points of a new work", 0, () -> x.work(0, 0, 1));
    }

    private static void goingBack() {
        promise = "14 back";
        ForgivenWork x = new ForgivenWork();
        dueThrow("back(0, 0) without a work", INDEX, () -> x.back(0, 0));
        dueThrow("back(3, 0)", INDEX, () -> x.back(3, 0));
        x.begin(0);
        dueThrow("back(0, 0) without a point", INDEX, () -> x.back(0, 0));
        x.write(0, 1, 10);
        x.regret(0, 5, 1);
        x.point(0);
        x.write(0, 1, 20);
        x.regret(0, 5, 2);
        x.point(0);
        x.write(0, 2, 30);
        x.begin(0);
        x.regret(0, 3, 44);
        x.fail(0);
        due("cell(3, 0)", 44, () -> x.cell(3, 0));
        dueThrow("back(0, -1)", INDEX, () -> x.back(0, -1));
        dueThrow("back(0, 2)", INDEX, () -> x.back(0, 2));
        dueThrow("back(0, max)", INDEX, () -> x.back(0, Integer.MAX_VALUE));
        due("back(0, 0)", 3, () -> x.back(0, 0));
        due("cell(1, 0)", 10, () -> x.cell(1, 0));
        due("cell(2, 0)", 0, () -> x.cell(2, 0));
        due("cell(2, 1) stays locked", 0, () -> x.cell(2, 1));
        due("cell(3, 0)", 0, () -> x.cell(3, 0));
        due("regrets", 1, () -> x.work(0, 0, 2));
        due("points", 1, () -> x.work(0, 0, 1));
        due("forgiven stays", 1, () -> x.work(0, 0, 3));
        due("back(0, 0) again", 0, () -> x.back(0, 0));
        due("point(0)", 1, () -> x.point(0));
        x.regret(0, 6, 1);
        due("back(0, 1) to a point set anew", 0, () -> x.back(0, 1));
        due("regrets", 1, () -> x.work(0, 0, 2));
        x.setMercy(0);
        x.begin(0);
        dueThrow("back to a point of an outer work", INDEX, () -> x.back(0, 0));
        x.fail(0);
        dueThrow("back(0, 0) of a spoiled work", STATE, () -> x.back(0, 0));
        dueThrow("back(0, 2) of a spoiled work", INDEX, () -> x.back(0, 2));
    }

    private static void regretting() {
        promise = "15 regret";
        ForgivenWork x = new ForgivenWork();
        dueThrow("regret without a work", STATE, () -> x.regret(0, 0, 1));
        dueThrow("regret(3, 0, 0)", INDEX, () -> x.regret(3, 0, 0));
        dueThrow("regret(0, 16, 0)", INDEX, () -> x.regret(0, 16, 0));
        dueThrow("regret(0, -1, 0)", INDEX, () -> x.regret(0, -1, 0));
        dueThrow("regret(0, 0, 0)", ARGUMENT, () -> x.regret(0, 0, 0));
        dueThrow("regret(0, 0, 100)", ARGUMENT, () -> x.regret(0, 0, 100));
        x.begin(0);
        x.begin(1);
        x.write(1, 4, 4);
        dueThrow("regret of a locked cell", STATE, () -> x.regret(0, 4, 1));
        for (int k = 1; k <= 6; k++) {
            due("regret(0, 15, 99)", k, () -> x.regret(0, 15, 99));
        }
        due("cell(15, 0)", 0, () -> x.cell(15, 0));
        due("cell(15, 1)", 0, () -> x.cell(15, 1));
        dueThrow("regret at 6", STATE, () -> x.regret(0, 0, 1));
        due("cell(0, 1) behind it", -1, () -> x.cell(0, 1));
        x.begin(0);
        due("regret of an inner work", 1, () -> x.regret(0, 0, 1));
        for (int k = 0; k < 40; k++) {
            x.write(0, 1, k);
        }
        due("whyNot(0, 1)", 4, () -> x.whyNot(0, 1));
        due("regret with a full log", 2, () -> x.regret(0, 1, 1));
        x.setMercy(0);
        x.begin(0);
        x.fail(0);
        dueThrow("regret of a spoiled work", STATE, () -> x.regret(0, 0, 1));
    }

    private static void endingWell() {
        promise = "16 done";
        ForgivenWork x = new ForgivenWork();
        dueThrow("done(0) without a work", STATE, () -> x.done(0));
        dueThrow("done(3)", INDEX, () -> x.done(3));
        dueThrow("done(-1)", INDEX, () -> x.done(-1));
        x.begin(0);
        for (int k = 0; k < 5; k++) {
            x.regret(0, k, 1 + k);
        }
        x.begin(0);
        x.write(0, 8, 8);
        x.point(0);
        x.regret(0, 5, 6);
        x.regret(0, 6, 7);
        x.regret(0, 5, 8);
        due("done(0) of an inner work", 1, () -> x.done(0));
        due("its regrets come behind", 8, () -> x.work(0, 0, 2));
        due("its points are gone", 0, () -> x.work(0, 0, 1));
        due("its writes stay", 1, () -> x.worker(0, 1));
        dueThrow("regret at 8", STATE, () -> x.regret(0, 7, 1));
        ForgivenWork y = new ForgivenWork();
        due("done(0) of the outermost", 0, () -> x.done(0));
        due("cell(0, 0)", 0, () -> x.cell(0, 0));
        due("cell(8, 0)", 8, () -> x.cell(8, 0));
        due("about(1)", 0, () -> x.about(1));
        due("about(3)", 1, () -> x.about(3));
        due("about(9)", 0, () -> x.about(9));
        due("worker(0, 1)", 0, () -> x.worker(0, 1));
        y.setMercy(0);
        y.begin(0);
        y.begin(0);
        y.fail(0);
        dueThrow("done(0) of a spoiled work", STATE, () -> y.done(0));
    }

    private static void failing() {
        promise = "17 fail";
        ForgivenWork x = new ForgivenWork();
        dueThrow("fail(0) without a work", STATE, () -> x.fail(0));
        dueThrow("fail(3)", INDEX, () -> x.fail(3));
        dueThrow("fail(-1)", INDEX, () -> x.fail(-1));
        x.begin(0);
        x.write(0, 1, 50);
        x.begin(0);
        x.write(0, 1, 60);
        x.write(0, 2, 70);
        x.regret(0, 1, 60);
        x.regret(0, 2, 99);
        x.regret(0, 1, 5);
        due("fail(0), forgiven", 1, () -> x.fail(0));
        due("cell(1, 0)", 15, () -> x.cell(1, 0));
        due("cell(2, 0)", 99, () -> x.cell(2, 0));
        due("entry(0, 0): the oldest regret comes last", 155, () -> x.entry(0, 0));
        due("entry(0, 1)", 200, () -> x.entry(0, 1));
        due("entry(0, 2): the newest regret comes first", 150, () -> x.entry(0, 2));
        due("entry(0, 3)", 100, () -> x.entry(0, 3));
        due("regrets of the work around", 0, () -> x.work(0, 0, 2));
        due("about(9)", 3, () -> x.about(9));
        x.begin(0);
        due("fail(0), no mercy left", 2, () -> x.fail(0));
        due("about(5)", 1, () -> x.about(5));
        due("about(6)", 1, () -> x.about(6));
        due("fail(0) of a spoiled outermost work", 0, () -> x.fail(0));
        due("about(0)", 0, () -> x.about(0));
        due("about(1)", 0, () -> x.about(1));
        due("about(4)", 1, () -> x.about(4));
        due("worker(0, 1)", 0, () -> x.worker(0, 1));
        x.begin(0);
        x.write(0, 3, 30);
        x.regret(0, 3, 5);
        due("fail(0) of the outermost with a regret", 0, () -> x.fail(0));
        due("cell(3, 0)", 5, () -> x.cell(3, 0));
        due("worker(0, 1)", 0, () -> x.worker(0, 1));
        logsBeyondForty();
    }

    private static void logsBeyondForty() {
        ForgivenWork x = new ForgivenWork();
        x.begin(1);
        for (int k = 0; k < 40; k++) {
            x.write(1, k % 4, k);
        }
        x.point(1);
        x.begin(1);
        x.regret(1, 10, 7);
        x.regret(1, 0, 8);
        due("fail(1)", 1, () -> x.fail(1));
        due("a log beyond 40", 42, () -> x.worker(1, 1));
        due("whyNot(1, 0)", 4, () -> x.whyNot(1, 0));
        due("cell(10, 0)", 7, () -> x.cell(10, 0));
        due("back(1, 0)", 2, () -> x.back(1, 0));
        due("cell(10, 0)", 0, () -> x.cell(10, 0));
        due("cell(0, 0)", 36, () -> x.cell(0, 0));
        due("fail(1)", 0, () -> x.fail(1));
        due("about(0)", 0, () -> x.about(0));
    }

    private static void mercies() {
        promise = "18 setMercy";
        ForgivenWork x = new ForgivenWork();
        due("setMercy(3)", 1, () -> x.setMercy(3));
        due("setMercy(0)", 3, () -> x.setMercy(0));
        due("setMercy(0) again", 0, () -> x.setMercy(0));
        dueThrow("setMercy(-1)", ARGUMENT, () -> x.setMercy(-1));
        dueThrow("setMercy(4)", ARGUMENT, () -> x.setMercy(4));
        due("about(7)", 0, () -> x.about(7));
        due("undo(): the same mercy was an action too", 2, x::undo);
        due("undo()", 1, x::undo);
        due("about(7)", 3, () -> x.about(7));
        x.begin(0);
        for (int k = 0; k < 3; k++) {
            x.begin(0);
            due("fail(0) with mercy 3", 1, () -> x.fail(0));
        }
        x.begin(0);
        due("fail(0) the fourth time", 2, () -> x.fail(0));
    }

    private static void undoing() {
        promise = "19 undo";
        ForgivenWork x = new ForgivenWork();
        dueThrow("undo() of nothing", STATE, x::undo);
        String[] before = new String[20];
        x.begin(0);
        for (int k = 0; k < 20; k++) {
            before[k] = seen(x);
            x.write(0, k % 16, k + 1);
        }
        for (int k = 19; k >= 6; k--) {
            due("undo()", k - 6, x::undo);
            same("undo() to write " + k, before[k], seen(x));
        }
        dueThrow("undo() of the fifteenth", STATE, x::undo);

        ForgivenWork y = loaded("Wb0s00140s00150p0s00160g00203b0g00304");
        String one = seen(y);
        y.fail(0);
        String two = seen(y);
        y.back(0, 0);
        String three = seen(y);
        y.fail(0);
        due("undo() of the outermost failure", 2, y::undo);
        same("undo()", three, seen(y));
        due("undo() of back", 1, y::undo);
        same("undo()", two, seen(y));
        due("undo() of fail", 0, y::undo);
        same("undo()", one, seen(y));
        y.fail(0);
        y.regret(0, 9, 1);
        y.undo();
        due("back(0, 0) of a state taken back", 2, () -> y.back(0, 0));
        due("its regrets", 0, () -> y.work(0, 0, 2));
        due("undo() of back", 1, y::undo);
        due("undo() of fail", 0, y::undo);
        y.done(0);
        y.done(0);
        due("undo() of done", 1, y::undo);
        due("worker(0, 3)", 0, () -> y.worker(0, 3));
        due("undo() of the inner done", 0, y::undo);
        same("undo() of both", one, seen(y));
        undoingPoints();
        type(y, "Wb1");
        y.begin(1);
        due("undo() leaves the text", 0, y::undo);
        due("clearText()", 3, y::clearText);
        y.begin(1);
        dueThrow("done(2)", STATE, () -> y.done(2));
        due("a call that throws is no action", 0, y::undo);
    }

    private static void undoingPoints() {
        ForgivenWork x = loaded("Wb0g00201p0");
        x.done(0);
        x.begin(0);
        x.point(0);
        x.undo();
        x.undo();
        x.undo();
        x.regret(0, 2, 2);
        due("back(0, 0)", 0, () -> x.back(0, 0));
        due("regrets at a point taken back", 1, () -> x.work(0, 0, 2));
        ForgivenWork y = loaded("Wb0b0");
        y.done(0);
        y.point(0);
        y.begin(0);
        y.undo();
        y.undo();
        y.undo();
        due("points of a work taken back", 0, () -> y.work(0, 1, 1));
        due("its first point", 0, () -> y.point(0));
    }

    private static void reasons() {
        promise = "20 whyNot";
        ForgivenWork x = new ForgivenWork();
        due("whyNot(0, 0) without a work", 1, () -> x.whyNot(0, 0));
        x.begin(1);
        x.write(1, 0, 1);
        due("whyNot(0, 0) without a work, locked", 1, () -> x.whyNot(0, 0));
        x.begin(0);
        due("whyNot(0, 0) locked", 3, () -> x.whyNot(0, 0));
        due("whyNot(1, 0) locked by itself", 0, () -> x.whyNot(1, 0));
        due("whyNot(0, 15)", 0, () -> x.whyNot(0, 15));
        for (int k = 0; k < 40; k++) {
            due("whyNot(0, 1)", 0, () -> x.whyNot(0, 1));
            x.write(0, 1, k);
        }
        due("whyNot(0, 1) at 40", 4, () -> x.whyNot(0, 1));
        due("whyNot(0, 0) at 40, locked", 3, () -> x.whyNot(0, 0));
        x.setMercy(0);
        x.begin(0);
        x.fail(0);
        due("whyNot(0, 0) spoiled", 2, () -> x.whyNot(0, 0));
        dueThrow("whyNot(3, 0)", INDEX, () -> x.whyNot(3, 0));
        dueThrow("whyNot(-1, 0)", INDEX, () -> x.whyNot(-1, 0));
        dueThrow("whyNot(0, 16)", INDEX, () -> x.whyNot(0, 16));
        dueThrow("whyNot(0, -1)", INDEX, () -> x.whyNot(0, -1));
    }

    private static void whatFailuresLeave() {
        promise = "21 failed";
        ForgivenWork x = loaded("Wb0s00110g00101b0s00120g00102b0s00130g00103");
        String before = seen(x);
        due("failed(0, 1, 0)", 30, () -> x.failed(0, 1, 0));
        due("failed(0, 1, 1)", 23, () -> x.failed(0, 1, 1));
        due("failed(0, 1, 2)", 12, () -> x.failed(0, 1, 2));
        due("failed(0, 1, 3)", 1, () -> x.failed(0, 1, 3));
        due("failed(0, 1, 5)", 1, () -> x.failed(0, 1, 5));
        due("failed(1, 1, 5)", 30, () -> x.failed(1, 1, 5));
        due("failed(0, 2, 5)", 0, () -> x.failed(0, 2, 5));
        same("failed()", before, seen(x));
        dueThrow("undo()", STATE, x::undo);
        dueThrow("failed(3, 0, 6)", INDEX, () -> x.failed(3, 0, 6));
        dueThrow("failed(0, 16, 6)", INDEX, () -> x.failed(0, 16, 6));
        dueThrow("failed(0, -1, 0)", INDEX, () -> x.failed(0, -1, 0));
        dueThrow("failed(0, 0, -1)", ARGUMENT, () -> x.failed(0, 0, -1));
        dueThrow("failed(0, 0, 6)", ARGUMENT, () -> x.failed(0, 0, 6));
    }

    private static void whatFailuresChange() {
        promise = "22 changes";
        ForgivenWork x = loaded("Wb0s00110b0s00120s00130s00240s00300g00405g00101g00199");
        due("changes(0)", 3, () -> x.changes(0));
        due("changes(1)", -1, () -> x.changes(1));
        due("changes(0) again", 3, () -> x.changes(0));
        dueThrow("changes(3)", INDEX, () -> x.changes(3));
        dueThrow("changes(-1)", INDEX, () -> x.changes(-1));
        ForgivenWork y = loaded("Wb2s20105b2s20110g20105");
        due("changes(2): a regret that gives the value back", 0, () -> y.changes(2));
    }

    private static void whatIsLost() {
        promise = "23 lost";
        ForgivenWork x = loaded("Wb0s00110p0s00120s00110s00233p0s00344");
        due("lost(0, 0)", 2, () -> x.lost(0, 0));
        due("lost(0, 1)", 1, () -> x.lost(0, 1));
        dueThrow("lost(0, 2)", INDEX, () -> x.lost(0, 2));
        dueThrow("lost(0, -1)", INDEX, () -> x.lost(0, -1));
        dueThrow("lost(1, 0)", INDEX, () -> x.lost(1, 0));
        dueThrow("lost(3, 0)", INDEX, () -> x.lost(3, 0));
        x.setMercy(0);
        x.begin(0);
        dueThrow("lost(0, 0) of an inner work", INDEX, () -> x.lost(0, 0));
        x.fail(0);
        String before = seen(x);
        due("lost(0, 0) of a spoiled work", 2, () -> x.lost(0, 0));
        same("lost(0, 0)", before, seen(x));
    }

    private static void mercyThatIsLeft() {
        promise = "24 mercyLeft";
        ForgivenWork x = new ForgivenWork();
        due("mercyLeft(0) without a work", -1, () -> x.mercyLeft(0));
        x.begin(0);
        due("mercyLeft(0)", 2, () -> x.mercyLeft(0));
        x.setMercy(3);
        due("mercyLeft(0)", 4, () -> x.mercyLeft(0));
        x.begin(0);
        x.fail(0);
        x.begin(0);
        x.fail(0);
        due("mercyLeft(0)", 2, () -> x.mercyLeft(0));
        x.setMercy(0);
        due("mercyLeft(0) with less mercy than it has used", 1, () -> x.mercyLeft(0));
        x.begin(0);
        x.fail(0);
        due("mercyLeft(0) spoiled", -1, () -> x.mercyLeft(0));
        for (int k = 0; k < 4; k++) {
            x.begin(1);
        }
        due("mercyLeft(1) with 4 works", 1, () -> x.mercyLeft(1));
        x.begin(1);
        due("mercyLeft(1) with 5 works", -1, () -> x.mercyLeft(1));
        dueThrow("mercyLeft(3)", INDEX, () -> x.mercyLeft(3));
        dueThrow("mercyLeft(-1)", INDEX, () -> x.mercyLeft(-1));
    }

    private static void scripts() {
        promise = "25 runScript";
        ForgivenWork x = loaded("Wb0s01207p0s01208g00305b1");
        String before = seen(x);
        long[] good = {
            10000, 10001, 10002, 10003, 12000, 20019, 21149, 30000, 40011, 40159, 50128, 50030, 60120, 60030,
            70001, 71001, 72000, 90002, 90099, 91000, 92000, 90010,
        };
        for (long script : good) {
            due("runScript(1, " + script + ")", -1, () -> x.runScript(1, script));
        }
        due("runScript(3, begin, write, holds)", -1, () -> x.runScript(3, 120002201950019L));
        due("runScript(3, write, back, holds)", -1, () -> x.runScript(3, 201293000050127L));
        due("runScript(2, fail, holds)", -1, () -> x.runScript(2, 1000250035L));
        due("runScript(2) with zeros before it", 0, () -> x.runScript(2, 10000));
        due("runScript(3): the second fails", 1, () -> x.runScript(3, 100011000110000L));
        due("runScript(3): the third fails", 2, () -> x.runScript(3, 100001000012001L));
        same("runScript()", before, seen(x));
        dueThrow("undo()", STATE, x::undo);
        dueThrow("runScript(0, 0)", ARGUMENT, () -> x.runScript(0, 0));
        dueThrow("runScript(4, 0)", ARGUMENT, () -> x.runScript(4, 0));
        dueThrow("runScript(1, -1)", ARGUMENT, () -> x.runScript(1, -1));
        dueThrow("runScript(1, 100000)", ARGUMENT, () -> x.runScript(1, 100000));
        dueThrow("runScript(2, 10000000000)", ARGUMENT, () -> x.runScript(2, 10000000000L));
        dueThrow("runScript(3, 10 ^ 15)", ARGUMENT, () -> x.runScript(3, 1000000000000000L));
        dueThrow("runScript(3, min)", ARGUMENT, () -> x.runScript(3, Long.MIN_VALUE));
        dueThrow("runScript(3, max)", ARGUMENT, () -> x.runScript(3, Long.MAX_VALUE));
        due("runScript(3, 10 ^ 15 - 1)", 0, () -> x.runScript(3, 999999999999999L));
    }

    private static void scriptsThatFail() {
        ForgivenWork x = loaded("Wb0s01207p0s01208g00305b1");
        long[] bad = {
            0, 9999, 10004, 10009, 10010, 10100, 13000, 12001, 12002, 12003, 23000, 20160, 21120, 22000,
            30001, 30010, 30100, 31000, 33000, 40010, 40160, 41121, 42011, 43011, 51128, 50127, 50160, 50990,
            60121, 61120, 60000, 60160, 63000, 70000, 70002, 70011, 70101, 73000, 80000, 80001, 80010, 80100, 82000, 83000,
            90001, 90100, 90102, 90999, 93000, 93099,
        };
        for (long script : bad) {
            due("runScript(1, " + script + ")", 0, () -> x.runScript(1, script));
        }
        ForgivenWork y = loaded("Wm0b2b2f2");
        due("runScript(1, 82000)", -1, () -> y.runScript(1, 82000));
        due("runScript(1, 82010)", 0, () -> y.runScript(1, 82010));
        due("runScript(1, 82001)", 0, () -> y.runScript(1, 82001));
        due("runScript(1, 80000)", 0, () -> y.runScript(1, 80000));
    }

    private static void simulations() {
        promise = "26 simulate";
        ForgivenWork x = new ForgivenWork();
        x.begin(1);
        x.write(1, 2, 3);
        String before = seen(x);
        int most = 0;
        for (long seed = -20; seed < 20; seed++) {
            for (int m = 1; m <= 99; m += 14) {
                most = Math.max(most, simulatedByHand(seed, m, 0));
            }
        }
        for (long seed : new long[] {Long.MIN_VALUE, Long.MAX_VALUE, 0, -1}) {
            simulatedByHand(seed, 99, 0);
            due("simulate(" + seed + ", 50) twice", x.simulate(seed, 50), () -> x.simulate(seed, 50));
        }
        // With logs that are nearly full, points and what goes back to them make room for more writes.
        for (long seed : new long[] {121, 260, 279, 385, 419}) {
            simulatedByHand(seed, 99, 38);
        }
        if (most < 1000) {
            wrong++;
            System.out.println(promise + ": no simulation had a failure that was forgiven");
        }
        same("simulate()", before, seen(x));
        due("undo()", 1, x::undo);
        dueThrow("simulate(0, 0)", ARGUMENT, () -> x.simulate(0, 0));
        dueThrow("simulate(0, 100)", ARGUMENT, () -> x.simulate(0, 100));
        dueThrow("simulate(0, -1)", ARGUMENT, () -> x.simulate(0, -1));
    }

    /** The steps of a simulation as calls on an object of their own: its answer is what they have to come to. */
    private static int simulatedByHand(long seed, int m, int writes) {
        ForgivenWork whole = withLogs(writes);
        ForgivenWork steps = withLogs(writes);
        long x = seed;
        for (int step = 0; step < m; step++) {
            x = x * 6364136223846793005L + 1442695040888963407L;
            int r = (int) (x >>> 33);
            int w = r / 16 % 3;
            int kind = r % 16;
            try {
                if (kind <= 2) {
                    steps.begin(w);
                } else if (kind <= 4) {
                    steps.done(w);
                } else if (kind <= 6) {
                    steps.fail(w);
                } else if (kind == 7) {
                    steps.point(w);
                } else if (kind == 8) {
                    steps.back(w, r / 64 % 4);
                } else if (kind == 9) {
                    steps.regret(w, r / 64 % 16, 1 + r / 1024 % 99);
                } else {
                    steps.write(w, r / 64 % 16, r / 1024 % 100);
                }
            } catch (IllegalStateException | IndexOutOfBoundsException e) {
                // it is left out
            }
        }
        int want = 1000 * (steps.about(5) - whole.about(5)) + steps.about(8) - whole.about(8);
        due("simulate(" + seed + ", " + m + ") behind " + writes + " writes", want, () -> whole.simulate(seed, m));
        return want;
    }

    /** An object in which each worker has written so often, in one work. */
    private static ForgivenWork withLogs(int writes) {
        ForgivenWork x = new ForgivenWork();
        for (int w = 0; w < 3 && writes > 0; w++) {
            x.begin(w);
            for (int k = 0; k < writes; k++) {
                x.write(w, 3 * (k % 5) + w, k);
            }
        }
        return x;
    }

    private static void saving() {
        promise = "27 save";
        ForgivenWork x = new ForgivenWork();
        due("save(0)", 0, () -> x.save(0));
        x.begin(0);
        x.write(0, 0, 99);
        x.write(0, 15, 98);
        due("save(1)", 197, () -> x.save(1));
        due("save is no action", 2, x::undo);
        dueThrow("save(-1)", INDEX, () -> x.save(-1));
        dueThrow("save(2)", INDEX, () -> x.save(2));
    }

    private static void restoring() {
        promise = "28 restore";
        ForgivenWork x = new ForgivenWork();
        dueThrow("restore(-1)", INDEX, () -> x.restore(-1));
        dueThrow("restore(2)", INDEX, () -> x.restore(2));
        dueThrow("restore(0)", STATE, () -> x.restore(0));
        x.begin(0);
        x.write(0, 1, 11);
        x.point(0);
        x.regret(0, 2, 22);
        x.begin(0);
        x.write(0, 1, 33);
        String kept = seen(x);
        x.save(1);
        dueThrow("restore(0)", STATE, () -> x.restore(0));
        x.fail(0);
        x.setMercy(3);
        x.fail(0);
        due("restore(1)", 33, () -> x.restore(1));
        same("restore(1)", kept, seen(x));
        dueThrow("undo() behind restore", STATE, x::undo);
        due("done(0)", 1, () -> x.done(0));
        due("back(0, 0)", 1, () -> x.back(0, 0));
        due("undo()", 1, x::undo);
        due("restore(1) again: the slot keeps it", 33, () -> x.restore(1));
        same("restore(1) again", kept, seen(x));
        type(x, "Wb2");
        due("restore leaves the text", 33, () -> x.restore(1));
        due("clearText()", 3, x::clearText);
    }
}
