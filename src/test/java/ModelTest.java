import java.util.ArrayDeque;
import java.util.ArrayList;
import java.util.Arrays;
import java.util.Deque;
import java.util.List;
import java.util.Random;
import java.util.regex.Matcher;
import java.util.regex.Pattern;

/**
 * Runs of random calls, each answered by the class and by a second one that is written in another way: every work
 * holds its own points and regrets, every state is copied whole, a story is told by a regular expression.
 */
public final class ModelTest {
    private static final int RUNS = 4000;
    private static final int CALLS = 512;
    private static final String[] CALLED = {
        "append", "clearText", "errorPosition", "load", "about", "cell", "worker", "work", "entry", "begin", "write",
        "point", "back", "regret", "done", "fail", "setMercy", "undo", "whyNot", "failed", "changes", "lost",
        "mercyLeft", "runScript", "simulate", "save", "restore",
    };
    // How often each of them is called, in several kinds of run.
    private static final int[][] OFTEN = {
        {4, 0, 1, 1, 3, 3, 3, 3, 3, 9, 20, 5, 5, 9, 6, 6, 2, 3, 3, 3, 3, 3, 3, 6, 3, 1, 1},
        {0, 0, 0, 0, 3, 3, 3, 6, 6, 12, 40, 5, 3, 30, 9, 6, 1, 1, 3, 6, 6, 6, 3, 3, 1, 0, 0},
        {0, 0, 0, 0, 1, 2, 2, 2, 2, 30, 3, 3, 1, 40, 20, 3, 1, 0, 1, 3, 3, 3, 3, 3, 1, 0, 0},
        {0, 0, 0, 0, 2, 2, 2, 2, 2, 10, 9, 9, 9, 9, 3, 9, 3, 40, 1, 1, 1, 1, 1, 1, 1, 9, 9},
        {80, 2, 20, 20, 3, 3, 3, 3, 3, 3, 3, 1, 1, 3, 3, 3, 1, 1, 1, 1, 1, 1, 1, 1, 1, 2, 2},
        {0, 0, 0, 0, 2, 2, 2, 2, 2, 5, 99, 2, 2, 9, 1, 2, 1, 1, 3, 3, 3, 3, 3, 3, 1, 0, 0},
    };

    private static int longestLog = 0;
    private static int mostRegrets = 0;

    public static void main(String[] args) {
        int[] answers = new int[CALLED.length];
        int[] exceptions = new int[CALLED.length];
        for (int run = 0; run < RUNS; run++) {
            if (!run(run, answers, exceptions)) {
                System.exit(1);
            }
        }
        System.out.println("ModelTest: " + RUNS + " runs, longest log " + longestLog + ", most regrets " + mostRegrets);
        boolean all = longestLog > 45 && mostRegrets > 20;
        for (int k = 0; k < CALLED.length; k++) {
            boolean throwsNever = k == 1 || k == 2;
            all &= answers[k] > 100 && (throwsNever || exceptions[k] > 100);
        }
        if (!all) {
            System.out.println("the runs did not come to everything: " + Arrays.toString(answers) + " "
                + Arrays.toString(exceptions));
            System.exit(1);
        }
        if (!longRun()) {
            System.exit(1);
        }
        System.out.println("ModelTest: all answers are as due");
    }

    /** As many regrets as 512 calls can bring into one work, and all of them done at once into one log. */
    private static boolean longRun() {
        List<String> calls = new ArrayList<>(List.of("begin 2", "write 2 0 7", "point 2", "begin 2"));
        while (calls.size() < 480) {
            calls.add("begin 2");
            for (int k = 0; k < 6; k++) {
                calls.add("regret 2 " + calls.size() % 16 + " " + (1 + calls.size() % 99));
            }
            calls.add("done 2");
        }
        calls.addAll(List.of("work 2 1 2", "save 0", "changes 2", "failed 2 3 1", "failed 2 3 2", "fail 2", "worker 2 1",
            "entry 2 0", "entry 2 356", "entry 2 357", "entry 2 358", "about 9", "about 0", "save 1", "lost 2 0",
            "back 2 0", "worker 2 1", "undo", "worker 2 1", "restore 0", "work 2 1 2", "restore 1", "worker 2 1"));
        ForgivenWork real = new ForgivenWork();
        Model model = new Model();
        for (String call : calls) {
            String[] words = call.split(" ");
            long[] a = Arrays.stream(words).skip(1).mapToLong(Long::parseLong).toArray();
            int index = Arrays.asList(CALLED).indexOf(words[0]);
            String got = answer(real, index, a);
            String want = model.answer(index, a);
            if (!got.equals(want) || Character.isLetter(got.charAt(0))) {
                System.out.println("long run: " + call + " answered " + got + ", due is " + want);
                return false;
            }
        }
        return calls.size() <= CALLS && model.longestLog() > 350;
    }

    private static boolean run(int run, int[] answers, int[] exceptions) {
        Random random = new Random(run);
        int[] often = OFTEN[run % OFTEN.length];
        boolean alone = random.nextInt(3) == 0;
        ForgivenWork real = new ForgivenWork();
        Model model = new Model();
        StringBuilder story = new StringBuilder();
        for (int k = 0; k < CALLS; k++) {
            int call = pick(random, often);
            long[] a = arguments(random, call, alone, model);
            String got = answer(real, call, a);
            String want = model.answer(call, a);
            story.append(CALLED[call]).append(Arrays.toString(a)).append(" -> ").append(got).append('\n');
            if (!got.equals(want)) {
                System.out.println("run " + run + ":\n" + story + "due is " + want);
                return false;
            }
            if (Character.isLetter(want.charAt(0))) {
                exceptions[call]++;
            } else {
                answers[call]++;
            }
            longestLog = Math.max(longestLog, model.longestLog());
            mostRegrets = Math.max(mostRegrets, model.mostRegrets());
        }
        return true;
    }

    private static int pick(Random random, int[] often) {
        int sum = 0;
        for (int number : often) {
            sum += number;
        }
        int at = random.nextInt(sum);
        int call = 0;
        while (at >= often[call]) {
            at -= often[call];
            call++;
        }
        return call;
    }

    // ---- arguments

    /** Mostly a number from 0 to most; now and then one that lies outside, or far outside. */
    private static int number(Random random, int least, int most) {
        int luck = random.nextInt(60);
        if (luck == 0) {
            return most + 1;
        }
        if (luck == 1) {
            return least - 1;
        }
        if (luck == 2) {
            return random.nextInt();
        }
        return least + random.nextInt(most - least + 1);
    }

    private static int aWorker(Random random, boolean alone) {
        return alone && random.nextInt(10) != 0 ? 1 : number(random, 0, 2);
    }

    private static int aCell(Random random) {
        return random.nextBoolean() ? number(random, 0, 4) : number(random, 0, 15);
    }

    private static long[] arguments(Random random, int call, boolean alone, Model model) {
        int w = aWorker(random, alone);
        switch (CALLED[call]) {
            case "append": return new long[] {aCharacter(random, model)};
            case "about": return new long[] {number(random, 0, 9)};
            case "cell": return new long[] {aCell(random), number(random, 0, 2)};
            case "worker": return new long[] {w, number(random, 0, 5)};
            case "work": return new long[] {w, number(random, 0, 2 + random.nextInt(3)), number(random, 0, 4)};
            case "entry": return new long[] {w, number(random, 0, random.nextBoolean() ? 5 : 60)};
            case "write": return new long[] {w, aCell(random), number(random, 0, 99)};
            case "back":
            case "lost": return new long[] {w, number(random, 0, random.nextInt(4))};
            case "regret": return new long[] {w, aCell(random), number(random, 1, 99)};
            case "setMercy": return new long[] {number(random, 0, 3)};
            case "whyNot": return new long[] {w, aCell(random)};
            case "failed": return new long[] {w, aCell(random), number(random, 0, 5)};
            case "runScript": return aScript(random);
            case "simulate": return new long[] {random.nextLong(), number(random, 1, 99)};
            case "save":
            case "restore": return new long[] {number(random, 0, 1)};
            case "clearText":
            case "errorPosition":
            case "load":
            case "undo": return new long[0];
            default: return new long[] {w};
        }
    }

    private static int aCharacter(Random random, Model model) {
        if (random.nextInt(200) == 0) {
            return number(random, 0, 255);
        }
        String text = model.text.toString();
        if (text.isEmpty()) {
            return 'W';
        }
        String signs = "bsprgdfm0123456789";
        for (int k = 0; k < 50; k++) {
            char sign = signs.charAt(random.nextInt(signs.length()));
            if (Model.mayBegin(text + sign)) {
                return sign;
            }
        }
        return 'b';
    }

    private static long[] aScript(Random random) {
        int n = number(random, 1, 3);
        long script = 0;
        for (int k = 0; k < Math.max(1, Math.min(3, n)); k++) {
            script = script * 100000 + aGroup(random);
        }
        if (random.nextInt(40) == 0) {
            script = random.nextInt(3) == 0 ? random.nextLong() : -script;
        }
        return new long[] {n, script};
    }

    private static int aGroup(Random random) {
        int group = random.nextInt(10) == 0 ? random.nextInt(100000) : 0;
        if (group != 0) {
            return group;
        }
        int command = 1 + random.nextInt(9);
        int w = random.nextInt(3);
        int cc = random.nextInt(16);
        int last = random.nextInt(random.nextBoolean() ? 4 : 10);
        switch (command) {
            case 1:
            case 3:
            case 7: return 10000 * command + 1000 * w + last;
            case 5: return 50000 + 10 * cc + last;
            case 6: return 60000 + 1000 * w + 10 * cc;
            case 8: return 80000 + 1000 * w;
            case 9: return 90000 + 1000 * w + random.nextInt(50);
            default: return 10000 * command + 1000 * w + 10 * cc + last;
        }
    }

    // ---- the class

    private static String answer(ForgivenWork x, int call, long[] a) {
        try {
            return String.valueOf(called(x, call, a));
        } catch (RuntimeException e) {
            return e.getClass().getSimpleName();
        }
    }

    private static int called(ForgivenWork x, int call, long[] a) {
        int first = a.length > 0 ? (int) a[0] : 0;
        int second = a.length > 1 ? (int) a[1] : 0;
        int third = a.length > 2 ? (int) a[2] : 0;
        switch (CALLED[call]) {
            case "append": return x.append(first);
            case "clearText": return x.clearText();
            case "errorPosition": return x.errorPosition();
            case "load": return x.load();
            case "about": return x.about(first);
            case "cell": return x.cell(first, second);
            case "worker": return x.worker(first, second);
            case "work": return x.work(first, second, third);
            case "entry": return x.entry(first, second);
            case "begin": return x.begin(first);
            case "write": return x.write(first, second, third);
            case "point": return x.point(first);
            case "back": return x.back(first, second);
            case "regret": return x.regret(first, second, third);
            case "done": return x.done(first);
            case "fail": return x.fail(first);
            case "setMercy": return x.setMercy(first);
            case "undo": return x.undo();
            case "whyNot": return x.whyNot(first, second);
            case "failed": return x.failed(first, second, third);
            case "changes": return x.changes(first);
            case "lost": return x.lost(first, second);
            case "mercyLeft": return x.mercyLeft(first);
            case "runScript": return x.runScript(first, a[1]);
            case "simulate": return x.simulate(a[0], second);
            case "save": return x.save(first);
            default: return x.restore(first);
        }
    }

    // ---- the second one

    private record Entry(int cell, int before) {
    }

    private record Regret(int cell, int number) {
    }

    private record Point(int log, int regrets) {
    }

    private static final class Job {
        final int logStart;
        List<Point> points = new ArrayList<>();
        List<Regret> regrets = new ArrayList<>();
        int forgiven;
        boolean spoiled;

        Job(int logStart) {
            this.logStart = logStart;
        }

        Job copy() {
            Job job = new Job(logStart);
            job.points = new ArrayList<>(points);
            job.regrets = new ArrayList<>(regrets);
            job.forgiven = forgiven;
            job.spoiled = spoiled;
            return job;
        }
    }

    private static final class World {
        int[] values = new int[16];
        int[] owners = new int[16];
        List<List<Job>> jobs = new ArrayList<>();
        List<List<Entry>> logs = new ArrayList<>();
        int[] over = new int[3];
        int[] broken = new int[3];
        int mercy = 1;
        int forgiven;
        int writes;
        int regretsDone;

        World() {
            Arrays.fill(owners, -1);
            for (int w = 0; w < 3; w++) {
                jobs.add(new ArrayList<>());
                logs.add(new ArrayList<>());
            }
        }

        World copy() {
            World copy = new World();
            copy.values = values.clone();
            copy.owners = owners.clone();
            for (int w = 0; w < 3; w++) {
                for (Job job : jobs.get(w)) {
                    copy.jobs.get(w).add(job.copy());
                }
                copy.logs.get(w).addAll(logs.get(w));
            }
            copy.over = over.clone();
            copy.broken = broken.clone();
            copy.mercy = mercy;
            copy.forgiven = forgiven;
            copy.writes = writes;
            copy.regretsDone = regretsDone;
            return copy;
        }

        void needWorker(long w) {
            if (w < 0 || w > 2) {
                throw new IndexOutOfBoundsException();
            }
        }

        void needCell(long c) {
            if (c < 0 || c > 15) {
                throw new IndexOutOfBoundsException();
            }
        }

        Job last(int w) {
            List<Job> its = jobs.get(w);
            return its.isEmpty() ? null : its.get(its.size() - 1);
        }

        boolean works(int w) {
            return last(w) != null && !last(w).spoiled;
        }

        int whyNot(int w, int c) {
            needWorker(w);
            needCell(c);
            if (last(w) == null) {
                return 1;
            }
            if (last(w).spoiled) {
                return 2;
            }
            if (owners[c] != w && owners[c] != -1) {
                return 3;
            }
            return logs.get(w).size() < 40 ? 0 : 4;
        }

        int begin(int w) {
            needWorker(w);
            if (jobs.get(w).size() == 5 || (last(w) != null && last(w).spoiled)) {
                throw new IllegalStateException();
            }
            jobs.get(w).add(new Job(logs.get(w).size()));
            return jobs.get(w).size();
        }

        int write(int w, int c, int v) {
            needWorker(w);
            needCell(c);
            if (v < 0 || v > 99) {
                throw new IllegalArgumentException();
            }
            if (whyNot(w, c) != 0) {
                throw new IllegalStateException();
            }
            int before = values[c];
            owners[c] = w;
            logs.get(w).add(new Entry(c, before));
            values[c] = v;
            writes++;
            return before;
        }

        int point(int w) {
            needWorker(w);
            if (!works(w) || last(w).points.size() == 4) {
                throw new IllegalStateException();
            }
            last(w).points.add(new Point(logs.get(w).size(), last(w).regrets.size()));
            return last(w).points.size() - 1;
        }

        void needPoint(int w, int i) {
            needWorker(w);
            if (last(w) == null || i < 0 || i >= last(w).points.size()) {
                throw new IndexOutOfBoundsException();
            }
        }

        int rollBack(int w, int length) {
            List<Entry> log = logs.get(w);
            int count = 0;
            while (log.size() > length) {
                Entry entry = log.remove(log.size() - 1);
                values[entry.cell()] = entry.before();
                count++;
            }
            return count;
        }

        int goBack(int w, int i) {
            Job job = last(w);
            Point point = job.points.get(i);
            job.points = new ArrayList<>(job.points.subList(0, i + 1));
            job.regrets = new ArrayList<>(job.regrets.subList(0, point.regrets()));
            return rollBack(w, point.log());
        }

        int back(int w, int i) {
            needPoint(w, i);
            if (last(w).spoiled) {
                throw new IllegalStateException();
            }
            return goBack(w, i);
        }

        int regret(int w, int c, int n) {
            needWorker(w);
            needCell(c);
            if (n < 1 || n > 99) {
                throw new IllegalArgumentException();
            }
            int why = whyNot(w, c);
            if ((why >= 1 && why <= 3) || last(w).regrets.size() >= 6) {
                throw new IllegalStateException();
            }
            owners[c] = w;
            last(w).regrets.add(new Regret(c, n));
            return last(w).regrets.size();
        }

        void unlock(int w) {
            logs.get(w).clear();
            for (int c = 0; c < 16; c++) {
                if (owners[c] == w) {
                    owners[c] = -1;
                }
            }
        }

        int done(int w) {
            needWorker(w);
            if (!works(w)) {
                throw new IllegalStateException();
            }
            Job job = jobs.get(w).remove(jobs.get(w).size() - 1);
            if (last(w) == null) {
                unlock(w);
                over[w]++;
            } else {
                last(w).regrets.addAll(job.regrets);
            }
            return jobs.get(w).size();
        }

        int fail(int w) {
            needWorker(w);
            if (last(w) == null) {
                throw new IllegalStateException();
            }
            Job job = jobs.get(w).remove(jobs.get(w).size() - 1);
            Job around = last(w);
            rollBack(w, job.logStart);
            for (int k = job.regrets.size() - 1; k >= 0; k--) {
                Regret regret = job.regrets.get(k);
                if (around != null) {
                    logs.get(w).add(new Entry(regret.cell(), values[regret.cell()]));
                }
                values[regret.cell()] = (values[regret.cell()] + regret.number()) % 100;
                regretsDone++;
            }
            if (around == null) {
                unlock(w);
                broken[w]++;
                return 0;
            }
            if (around.forgiven < mercy) {
                around.forgiven++;
                forgiven++;
                return 1;
            }
            around.spoiled = true;
            return 2;
        }

        int mercyLeft(int w) {
            if (!works(w) || jobs.get(w).size() == 5) {
                return -1;
            }
            World copy = copy();
            for (int times = 1; ; times++) {
                copy.begin(w);
                if (copy.fail(w) == 2) {
                    return times;
                }
            }
        }

        int different(World other) {
            int count = 0;
            for (int c = 0; c < 16; c++) {
                count += values[c] == other.values[c] ? 0 : 1;
            }
            return count;
        }

        int sum() {
            return Arrays.stream(values).sum();
        }
    }

    private static final class Model {
        static final Pattern STORY = Pattern.compile("W([bpdf][0-2]|s[0-2](0[0-9]|1[0-5])[0-9][0-9]|r[0-2][0-3]"
            + "|g[0-2](0[0-9]|1[0-5])(0[1-9]|[1-9][0-9])|m[0-3])*");

        final StringBuilder text = new StringBuilder();
        World world = new World();
        final Deque<World> remembered = new ArrayDeque<>();
        final World[] slots = new World[2];

        static boolean mayBegin(String beginning) {
            Matcher matcher = STORY.matcher(beginning);
            return matcher.matches() || matcher.hitEnd();
        }

        int longestLog() {
            int most = 0;
            for (List<Entry> log : world.logs) {
                most = Math.max(most, log.size());
            }
            return most;
        }

        int mostRegrets() {
            int most = 0;
            for (List<Job> jobs : world.jobs) {
                for (Job job : jobs) {
                    most = Math.max(most, job.regrets.size());
                }
            }
            return most;
        }

        String answer(int call, long[] a) {
            World before = world.copy();
            try {
                String name = CALLED[call];
                int answer = name.equals("runScript") ? script((int) a[0], a[1])
                    : name.equals("simulate") ? simulation(a[0], (int) a[1])
                    : answer(name, a.length > 0 ? (int) a[0] : 0, a.length > 1 ? (int) a[1] : 0,
                        a.length > 2 ? (int) a[2] : 0);
                if (List.of("begin", "write", "point", "back", "regret", "done", "fail", "setMercy").contains(name)) {
                    remembered.addLast(before);
                    if (remembered.size() > 14) {
                        remembered.removeFirst();
                    }
                }
                return String.valueOf(answer);
            } catch (RuntimeException e) {
                world = before;
                return e.getClass().getSimpleName();
            }
        }

        private int answer(String name, int first, int second, int third) {
            switch (name) {
                case "append": return append(first);
                case "clearText": {
                    int length = text.length();
                    text.setLength(0);
                    return length;
                }
                case "errorPosition": return errorPosition();
                case "load": return load();
                case "about": return about(first);
                case "cell": return cell(first, second);
                case "worker": return worker(first, second);
                case "work": return work(first, second, third);
                case "entry": return entry(first, second);
                case "begin": return world.begin(first);
                case "write": return world.write(first, second, third);
                case "point": return world.point(first);
                case "back": return world.back(first, second);
                case "regret": return world.regret(first, second, third);
                case "done": return world.done(first);
                case "fail": return world.fail(first);
                case "setMercy": return setMercy(first);
                case "undo": return undo();
                case "whyNot": return world.whyNot(first, second);
                case "failed": return failed(first, second, third);
                case "changes": return changes(first);
                case "lost": return lost(first, second);
                case "mercyLeft": {
                    world.needWorker(first);
                    return world.mercyLeft(first);
                }
                case "save": {
                    slots[slot(first)] = world.copy();
                    return world.sum();
                }
                default: return restore(first);
            }
        }

        private int append(int c) {
            if (c < 0 || c > 255) {
                throw new IllegalArgumentException();
            }
            if (text.length() == 120) {
                throw new IllegalStateException();
            }
            return text.append((char) c).length();
        }

        private int errorPosition() {
            String story = text.toString();
            if (STORY.matcher(story).matches()) {
                return -1;
            }
            int length = 0;
            while (length < story.length() && mayBegin(story.substring(0, length + 1))) {
                length++;
            }
            return length;
        }

        private int load() {
            if (errorPosition() != -1) {
                throw new IllegalStateException();
            }
            world = new World();
            remembered.clear();
            Arrays.fill(slots, null);
            int leftOut = 0;
            for (String command : text.substring(1).split("(?=[a-z])")) {
                if (command.isEmpty()) {
                    continue;
                }
                try {
                    loadOne(command.charAt(0), command.substring(1));
                } catch (IllegalStateException | IndexOutOfBoundsException e) {
                    leftOut++;
                }
            }
            return leftOut;
        }

        private void loadOne(char letter, String digits) {
            int w = Integer.parseInt(digits.substring(0, 1));
            String rest = digits.substring(1);
            switch (letter) {
                case 'b' -> world.begin(w);
                case 'p' -> world.point(w);
                case 'd' -> world.done(w);
                case 'f' -> world.fail(w);
                case 'r' -> world.back(w, Integer.parseInt(rest));
                case 's' -> world.write(w, Integer.parseInt(rest) / 100, Integer.parseInt(rest) % 100);
                case 'g' -> world.regret(w, Integer.parseInt(rest) / 100, Integer.parseInt(rest) % 100);
                default -> world.mercy = w;
            }
        }

        private int about(int what) {
            if (what < 0 || what > 9) {
                throw new IllegalArgumentException();
            }
            int jobs = 0;
            int spoiled = 0;
            for (List<Job> its : world.jobs) {
                jobs += its.size();
                for (Job job : its) {
                    spoiled += job.spoiled ? 1 : 0;
                }
            }
            int locked = (int) Arrays.stream(world.owners).filter(owner -> owner >= 0).count();
            return new int[] {world.sum(), locked, jobs, Arrays.stream(world.over).sum(),
                Arrays.stream(world.broken).sum(), world.forgiven, spoiled, world.mercy, world.writes,
                world.regretsDone}[what];
        }

        private int cell(int c, int what) {
            world.needCell(c);
            switch (what) {
                case 0: return world.values[c];
                case 1: return world.owners[c];
                case 2:
                    if (world.owners[c] >= 0) {
                        for (Entry entry : world.logs.get(world.owners[c])) {
                            if (entry.cell() == c) {
                                return entry.before();
                            }
                        }
                    }
                    return world.values[c];
                default: throw new IllegalArgumentException();
            }
        }

        private int worker(int w, int what) {
            world.needWorker(w);
            switch (what) {
                case 0: return world.jobs.get(w).size();
                case 1: return world.logs.get(w).size();
                case 2: return (int) Arrays.stream(world.owners).filter(owner -> owner == w).count();
                case 3: return world.over[w];
                case 4: return world.broken[w];
                case 5: return world.last(w) != null && world.last(w).spoiled ? 1 : 0;
                default: throw new IllegalArgumentException();
            }
        }

        private int work(int w, int i, int what) {
            world.needWorker(w);
            Job job = world.jobs.get(w).get(java.util.Objects.checkIndex(i, world.jobs.get(w).size()));
            switch (what) {
                case 0: return job.logStart;
                case 1: return job.points.size();
                case 2: return job.regrets.size();
                case 3: return job.forgiven;
                case 4: return job.spoiled ? 1 : 0;
                default: throw new IllegalArgumentException();
            }
        }

        private int entry(int w, int k) {
            world.needWorker(w);
            if (k < 0) {
                throw new IllegalArgumentException();
            }
            List<Entry> log = world.logs.get(w);
            if (k >= log.size()) {
                return -1;
            }
            Entry entry = log.get(log.size() - 1 - k);
            return 100 * entry.cell() + entry.before();
        }

        private int setMercy(int mercy) {
            if (mercy < 0 || mercy > 3) {
                throw new IllegalArgumentException();
            }
            int before = world.mercy;
            world.mercy = mercy;
            return before;
        }

        private int undo() {
            if (remembered.isEmpty()) {
                throw new IllegalStateException();
            }
            world = remembered.removeLast();
            return remembered.size();
        }

        private int failed(int w, int c, int n) {
            world.needWorker(w);
            world.needCell(c);
            if (n < 0 || n > 5) {
                throw new IllegalArgumentException();
            }
            World copy = world.copy();
            for (int k = 0; k < n && copy.last(w) != null; k++) {
                copy.fail(w);
            }
            return copy.values[c];
        }

        private int changes(int w) {
            world.needWorker(w);
            if (world.last(w) == null) {
                return -1;
            }
            World copy = world.copy();
            copy.fail(w);
            return world.different(copy);
        }

        private int lost(int w, int i) {
            world.needPoint(w, i);
            World copy = world.copy();
            copy.goBack(w, i);
            return world.different(copy);
        }

        private int script(int n, long script) {
            if (n < 1 || n > 3 || script < 0 || Long.toString(script).length() > 5 * n) {
                throw new IllegalArgumentException();
            }
            String digits = "0".repeat(5 * n - Long.toString(script).length()) + script;
            World copy = world.copy();
            for (int k = 0; k < n; k++) {
                boolean good;
                try {
                    good = scriptCommand(copy, digits.substring(5 * k, 5 * k + 5));
                } catch (RuntimeException e) {
                    good = false;
                }
                if (!good) {
                    return k;
                }
            }
            return -1;
        }

        private boolean scriptCommand(World copy, String group) {
            int w = group.charAt(1) - '0';
            int cc = Integer.parseInt(group.substring(2, 4));
            int last = group.charAt(4) - '0';
            if (group.matches("1.000")) {
                copy.begin(w);
            } else if (group.matches("1.001")) {
                copy.done(w);
            } else if (group.matches("1.002")) {
                copy.fail(w);
            } else if (group.matches("1.003")) {
                copy.point(w);
            } else if (group.matches("2....")) {
                copy.write(w, cc, last);
            } else if (group.matches("3.00.")) {
                copy.back(w, last);
            } else if (group.matches("4....")) {
                copy.regret(w, cc, last);
            } else if (group.matches("50...")) {
                return copy.values[cc] == last;
            } else if (group.matches("6[012]..0")) {
                return copy.owners[cc] == w;
            } else if (group.matches("7.00.")) {
                return copy.jobs.get(w).size() == last;
            } else if (group.matches("8.000")) {
                return copy.last(w).spoiled;
            } else if (group.matches("9.0..")) {
                return copy.logs.get(w).size() <= Integer.parseInt(group.substring(3));
            } else {
                return false;
            }
            return true;
        }

        private int simulation(long seed, int m) {
            if (m < 1 || m > 99) {
                throw new IllegalArgumentException();
            }
            World copy = world.copy();
            long x = seed;
            for (int step = 0; step < m; step++) {
                x = x * 6364136223846793005L + 1442695040888963407L;
                int r = (int) (x >>> 33);
                try {
                    simulatedStep(copy, r, r / 16 % 3);
                } catch (IllegalStateException | IndexOutOfBoundsException e) {
                    continue;
                }
            }
            return 1000 * (copy.forgiven - world.forgiven) + copy.writes - world.writes;
        }

        private void simulatedStep(World copy, int r, int w) {
            switch (r % 16) {
                case 0, 1, 2 -> copy.begin(w);
                case 3, 4 -> copy.done(w);
                case 5, 6 -> copy.fail(w);
                case 7 -> copy.point(w);
                case 8 -> copy.back(w, r / 64 % 4);
                case 9 -> copy.regret(w, r / 64 % 16, 1 + r / 1024 % 99);
                default -> copy.write(w, r / 64 % 16, r / 1024 % 100);
            }
        }

        private int slot(int slot) {
            if (slot != 0 && slot != 1) {
                throw new IndexOutOfBoundsException();
            }
            return slot;
        }

        private int restore(int slot) {
            if (slots[slot(slot)] == null) {
                throw new IllegalStateException();
            }
            world = slots[slot].copy();
            remembered.clear();
            return world.sum();
        }
    }
}
