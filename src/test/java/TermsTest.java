import java.io.IOException;

/** Each sentence of the document's Terms that names a boundary case, held against calls. */
public final class TermsTest {
    private static Sentences the;

    public static void main(String[] args) throws IOException {
        the = new Sentences("TermsTest");
        the.in("What it is");
        life();
        the.in("Terms");
        cells();
        locks();
        works();
        logs();
        whatIsPossible();
        writing();
        points();
        regrets();
        endsThatAreDone();
        endsThatFail();
        mercy();
        textBuffer();
        stories();
        commands();
        commandsLeftOut();
        errorPositions();
        actions();
        remembered();
        exceptions();
        firstException();
        callsThatChangeNothing();
        callsThatOnlyTell();
        the.end();
    }

    // ---- what it is

    private static void life() {
        String regretsOfOneWork = "begin 0\n6 * regret 0 1 11\ndone 0 = 2\n".repeat(62);
        the.holds("An object is used for at most 512 calls after it has been made", "begin 0\nbegin 0\n" + regretsOfOneWork + """
            work 0 1 2 = 372
            regret 0 1 1 ! State
            changes 0 = 1
            failed 0 1 1 = 92
            fail 0 = 1
            worker 0 1 = 372
            entry 0 0 = 181
            entry 0 371 = 100
            entry 0 372 = -1
            changes 0 = 1
            failed 0 1 1 = 0
            undo = 13
            work 0 1 2 = 372
            fail 0 = 1
            """);
        the.holds("An object is used for at most 512 calls after it has been made", """
            begin 0
            255 * setMercy 3
            255 * setMercy 0
            undo = 13 // the 512th call
            """);
    }

    // ---- cells and locks

    private static void cells() {
        the.holds("There are 16 cells, numbered from 0, with values from 0 to 99, at first 0.", """
            cell 0..15 0 = 0
            cell -1 0 ! Index
            cell 16 0 ! Index
            begin 0
            write 0 0 0 = 0
            write 0 15 99 = 0
            cell 15 0 = 99
            write 0 15 0 = 99
            write 0 0..15 99 = 0
            cell 0..15 0 = 99
            about 0 = 1584
            write 0 0 -1 ! Argument
            write 0 0 100 ! Argument
            write 0 -1 0 ! Index
            write 0 16 0 ! Index
            """);
        the.holds("There are 3 workers, numbered from 0.", """
            worker 0..2 0 = 0
            worker -1 0 ! Index
            worker 3 0 ! Index
            begin 0..2 = 1
            begin -1 ! Index
            begin 3 ! Index
            about 2 = 3
            """);
    }

    private static void locks() {
        the.holds("A cell is locked by at most one worker.", """
            begin 0..1
            write 0 3 5 = 0
            write 1 3 6 ! State
            regret 1 3 6 ! State
            cell 3 1 = 0
            worker 0 2 = 1
            worker 1 2 = 0
            about 1 = 1
            done 0 = 0
            write 1 3 6 = 5
            cell 3 1 = 1
            """);
        the.holds("A worker locks a cell when it writes it, or has a regret for it", """
            begin 2
            cell 0 1 = -1
            write 2 0 0 = 0 // the value that it has already
            cell 0 1 = 2
            cell 15 1 = -1
            regret 2 15 1 = 1
            cell 15 1 = 2
            worker 2 2 = 2
            write 2 1 100 ! Argument
            regret 2 1 0 ! Argument
            cell 1 1 = -1
            5 * regret 2 15 1
            regret 2 1 1 ! State
            38 * write 2 0 1
            write 2 0 1
            write 2 1 1 ! State
            cell 1 1 = -1
            """);
        the.holds("keeps the lock until its outermost work ends, whatever is undone meanwhile", """
            begin 0
            point 0
            write 0 1 1
            regret 0 2 2
            back 0 0 = 1
            cell 1..2 1 = 0
            begin 0
            write 0 3 3
            regret 0 4 4
            fail 0 = 1
            cell 1..4 1 = 0
            begin 0
            write 0 5 5
            done 0 = 1
            cell 1..5 1 = 0
            begin 0
            fail 0 = 2
            about 1 = 5
            fail 0 = 0
            cell 0..15 1 = -1
            about 1 = 0
            new
            begin 0
            write 0 1 1
            regret 0 2 2
            done 0 = 0
            cell 0..15 1 = -1
            """);
    }

    // ---- works

    private static void works() {
        the.holds("A worker has 0 to 5 works, one within the other, numbered from 0 (the outermost); the last one is its"
            + " innermost.", """
            worker 0 0 = 0
            work 0 0 0 ! Index
            begin 0 = 1
            write 0 1 1
            begin 0 = 2
            write 0 1 2
            begin 0 = 3
            begin 0 = 4
            begin 0 = 5
            begin 0 ! State
            worker 0 0 = 5
            work 0 -1 0 ! Index
            work 0 0 0 = 0
            work 0 1 0 = 1
            work 0 2..4 0 = 2
            work 0 5 0 ! Index
            point 0 = 0
            work 0 4 1 = 1
            work 0 0..3 1 = 0
            begin 1 = 1
            done 0 = 4
            work 0 4 0 ! Index
            begin 0 = 5
            begin 0 ! State
            """);
        the.holds("A work has points, at most 4, numbered from 0", """
            begin 0
            work 0 0 1 = 0
            back 0 0 ! Index
            point 0 = 0
            point 0 = 1
            point 0 = 2
            point 0 = 3
            point 0 ! State
            work 0 0 1 = 4
            lost 0 3 = 0
            lost 0 4 ! Index
            begin 0
            point 0 = 0
            3 * point 0
            point 0 ! State
            work 0 0..1 1 = 4
            done 0 = 1
            work 0 0 1 = 4
            point 0 ! State
            back 0 2 = 0
            point 0 = 3
            point 0 ! State
            back 0 0 = 0
            point 0 = 1
            """);
        the.holds("it has forgiven some inner failures, at first 0, and is spoiled or not, at first not", """
            begin 0
            work 0 0 3..4 = 0
            begin 0
            fail 0 = 1
            begin 0
            fail 0 = 2
            work 0 0 3..4 = 1
            fail 0 = 0
            begin 0
            work 0 0 3..4 = 0
            worker 0 5 = 0
            begin 0
            begin 0
            fail 0 = 1
            begin 0
            fail 0 = 2
            work 0 1 3..4 = 1
            fail 0 = 1
            begin 0
            work 0 1 3..4 = 0
            """);
    }

    private static void logs() {
        the.holds("A worker has a log of its writes: the cell, and the value that it had before, at most 40 entries", """
            begin 0
            worker 0 1 = 0
            entry 0 0 = -1
            20 * write 0 3 7
            begin 0
            19 * write 0 15 99
            worker 0 1 = 39
            write 0 15 98 = 99
            worker 0 1 = 40
            write 0 15 97 ! State
            worker 0 1 = 40
            entry 0 0 = 1599
            entry 0 39 = 300
            entry 0 40 = -1
            begin 1
            write 1 4 4 = 0 // another worker has its own log
            fail 0 = 1
            worker 0 1 = 20
            write 0 15 1 = 0
            """);
        the.holds("a work, and a point, know how long the log was when they began", """
            setMercy 3
            begin 0
            work 0 0 0 = 0
            write 0 1 1
            point 0 = 0
            begin 0
            work 0 1 0 = 1
            39 * write 0 1 2
            begin 0
            work 0 2 0 = 40
            regret 0 2 3
            fail 0 = 1
            begin 0
            work 0 0 0 = 0
            work 0 1 0 = 1
            work 0 2 0 = 41 // beyond 40
            done 0 = 2
            done 0 = 1
            back 0 0 = 40
            worker 0 1 = 1
            """);
        the.holds("Nothing can be written without a work.", """
            write 0 0 1 ! State
            cell 0 0 = 0
            begin 1
            write 0 0 1 ! State
            begin 0
            write 0 0 1 = 0
            done 0 = 0
            write 0 0 2 ! State
            begin 0
            fail 0 = 0
            write 0 0 2 ! State
            cell 0 0 = 1
            """);
    }

    // ---- writing, points, regrets

    private static void whatIsPossible() {
        the.holds("These are possible only if the worker has a work, and its innermost one is not spoiled.", """
            write 0 0 0 ! State
            point 0 ! State
            back 0 0 ! Index
            regret 0 0 1 ! State
            begin 1
            write 0 0 0 ! State
            point 0 ! State
            back 0 0 ! Index
            regret 0 0 1 ! State
            """);
        the.holds("These are possible only if the worker has a work, and its innermost one is not spoiled.", """
            setMercy 0
            begin 0
            begin 0
            point 0 = 0
            begin 0
            fail 0 = 2
            write 0 0 0 ! State
            point 0 ! State
            back 0 0 ! State
            regret 0 0 1 ! State
            begin 1
            write 1 0 1 = 0 // only the worker's own works count
            done 1 = 0
            setMercy 1
            fail 0 = 1
            point 0 = 0 // the spoiled one is gone
            write 0 0 5 = 1
            regret 0 0 1 = 1
            back 0 0 = 1
            """);
    }

    private static void writing() {
        the.holds("Writing: the cell is locked, the write is logged, the cell has the value.", """
            begin 0
            write 0 5 0 = 0
            cell 5 1 = 0
            worker 0 1 = 1
            entry 0 0 = 500
            write 0 15 99 = 0
            cell 15 0 = 99
            write 0 15 99 = 99 // the value that it has already
            worker 0 1 = 3
            entry 0 0 = 1599
            """);
        the.holds("It is not possible if another worker has locked it", """
            begin 0
            begin 1
            write 1 7 1
            regret 1 8 1
            write 0 7 2 ! State
            write 0 8 2 ! State
            cell 7 0 = 1
            cell 8 0 = 0
            worker 0 1 = 0
            write 1 7 2 = 1
            write 1 8 2 = 0
            fail 1 = 0
            write 0 7 2 = 0
            """);
        the.holds("or if the log has 40 entries", """
            begin 0
            39 * write 0 0 1
            write 0 0 2 = 1
            write 0 0 3 ! State
            cell 0 0 = 2
            begin 0
            write 0 0 3 ! State
            regret 0 1 1
            fail 0 = 1
            worker 0 1 = 41
            write 0 0 3 ! State
            write 0 1 3 ! State
            """);
    }

    private static void points() {
        the.holds("A point is set in the innermost work.", """
            begin 0
            begin 0
            point 0 = 0
            work 0 0 1 = 0
            work 0 1 1 = 1
            done 0 = 1
            back 0 0 ! Index
            point 0 = 0
            """);
        the.holds("It knows the log, and how many regrets the work has then.", """
            begin 0
            point 0 = 0 // of nothing
            6 * regret 0 1 1
            40 * write 0 2 1
            point 0 = 1 // with all that a work can take
            begin 0
            6 * regret 0 3 2
            done 0 = 1
            work 0 0 2 = 12
            point 0 = 2
            begin 0
            regret 0 4 9
            fail 0 = 1
            point 0 = 3 // beyond both
            worker 0 1 = 41
            back 0 3 = 0
            back 0 2 = 1
            worker 0 1 = 40
            work 0 0 2 = 12
            back 0 1 = 0
            work 0 0 2 = 6
            worker 0 1 = 40
            back 0 0 = 40
            work 0 0 2 = 0
            worker 0 1 = 0
            """);
        the.holds("the writes behind it are undone, the newest first (each cell gets the value of the entry, which is"
            + " gone)", """
            begin 0
            write 0 1 10
            point 0
            write 0 1 20
            write 0 1 30
            write 0 2 99
            back 0 0 = 3
            cell 1 0 = 10
            cell 2 0 = 0
            worker 0 1 = 1
            entry 0 0 = 100
            entry 0 1 = -1
            back 0 0 = 0 // nothing is behind it now
            cell 1 0 = 10
            """);
        the.holds("regrets that came behind it are gone, and so are later points. The point stays.", """
            begin 0
            regret 0 1 1
            point 0 = 0
            regret 0 2 2
            point 0 = 1
            point 0 = 2
            back 0 1 = 0
            work 0 0 1 = 2
            work 0 0 2 = 2
            back 0 2 ! Index
            back 0 0 = 0
            work 0 0 1..2 = 1
            back 0 1 ! Index
            back 0 0 = 0
            work 0 0 1..2 = 1
            point 0 = 1 // a new one, which knows fewer regrets than the one that is gone
            regret 0 3 3
            back 0 1 = 0
            work 0 0 2 = 1
            regret 0 3 3
            fail 0 = 0
            cell 1 0 = 1
            cell 2 0 = 0
            cell 3 0 = 3
            """);
    }

    private static void regrets() {
        the.holds("A regret of the innermost work is a cell, which is locked by that, and a number from 1 to 99.", """
            begin 0
            regret 0 0 0 ! Argument
            regret 0 0 100 ! Argument
            regret 0 -1 1 ! Index
            regret 0 16 1 ! Index
            cell 0 1 = -1
            begin 0
            regret 0 0 1 = 1
            regret 0 15 99 = 2
            work 0 0 2 = 0
            work 0 1 2 = 2
            cell 0 1 = 0
            cell 15 1 = 0
            cell 15 0 = 0
            fail 0 = 1
            cell 0 0 = 1
            cell 15 0 = 99
            """);
        the.holds("A work can take one if it has fewer than 6.", """
            begin 0
            point 0
            regret 0 1 1 = 1
            4 * regret 0 1 1
            regret 0 1 1 = 6
            regret 0 1 1 ! State
            work 0 0 2 = 6
            begin 0
            regret 0 1 1 = 1
            4 * regret 0 1 1
            regret 0 1 1 = 6
            regret 0 1 1 ! State
            done 0 = 1
            work 0 0 2 = 12
            regret 0 1 1 ! State
            back 0 0 = 0
            regret 0 1 1 = 1
            """);
    }

    // ---- ends

    private static void endsThatAreDone() {
        the.holds("The innermost work is done (if it is not spoiled)", """
            setMercy 0
            begin 0
            begin 0
            fail 0 = 2
            done 0 ! State
            fail 0 = 0
            done 0 ! State
            begin 0
            done 0 = 0
            """);
        the.holds("if it is the outermost, all is over: its regrets are gone undone, the log is empty, and all locks of the"
            + " worker are gone.", """
            begin 1
            write 1 15 9
            begin 0
            40 * write 0 1 5
            6 * regret 0 2 7
            done 0 = 0
            cell 1 0 = 5
            cell 2 0 = 0
            worker 0 0..2 = 0
            entry 0 0 = -1
            cell 15 1 = 1 // the locks of the others stay
            worker 1 1..2 = 1
            about 9 = 0
            begin 0 = 1
            work 0 0 0..4 = 0
            fail 0 = 0
            cell 2 0 = 0
            about 9 = 0
            """);
        the.holds("Otherwise its regrets come behind those of the work around it, however many these are then, and its"
            + " points are gone.", """
            begin 0
            6 * regret 0 1 1
            begin 0
            6 * regret 0 1 1
            begin 0
            6 * regret 0 1 1
            point 0 = 0
            begin 0
            6 * regret 0 1 1
            4 * point 0
            begin 0
            6 * regret 0 1 1
            4 * point 0
            done 0 = 4
            work 0 3 2 = 12
            work 0 3 1 = 4
            done 0 = 3
            work 0 2 2 = 18
            work 0 2 1 = 1
            done 0 = 2
            work 0 1 2 = 24
            work 0 1 1 = 0
            done 0 = 1
            work 0 0 2 = 30
            regret 0 1 1 ! State
            back 0 0 ! Index
            begin 0
            done 0 = 1 // without any
            work 0 0 2 = 30
            fail 0 = 0
            about 9 = 30
            cell 1 0 = 30
            """);
        the.holds("and its points are gone.", """
            begin 0
            point 0 = 0
            begin 0
            4 * point 0
            regret 0 1 1
            write 0 1 1
            point 0 ! State
            done 0 = 1
            work 0 0 1 = 1
            point 0 = 1
            regret 0 1 1
            write 0 1 2
            point 0 = 2
            point 0 = 3
            back 0 1 = 1
            work 0 0 2 = 1
            back 0 0 = 1
            work 0 0 2 = 0
            """);
        the.holds("its regrets come behind those of the work around it", """
            begin 0
            begin 0
            regret 0 1 10
            begin 0
            regret 0 1 20
            done 0 = 2
            fail 0 = 1
            entry 0 0 = 120 // the inner one was the newest, and so the first
            entry 0 1 = 100
            """);
    }

    private static void endsThatFail() {
        the.holds("The innermost work fails (spoiled or not): its writes are undone, the newest first.", """
            begin 0
            write 0 1 10
            begin 0
            write 0 1 20
            write 0 1 30
            write 0 2 5
            fail 0 = 1
            cell 1 0 = 10
            cell 2 0 = 0
            worker 0 1 = 1
            begin 0
            fail 0 = 2 // a work without writes
            cell 1 0 = 10
            worker 0 1 = 1
            worker 0 5 = 1
            fail 0 = 0 // a spoiled one
            cell 1 0 = 0
            worker 0 1 = 0
            """);
        the.holds("Then its regrets are done, the newest first: the cell gets (its value + the number) as the remainder by"
            + " 100", """
            begin 0
            write 0 1 99
            write 0 2 1
            write 0 3 99
            write 0 4 50
            begin 0
            write 0 6 60 // undone ahead of the regrets
            regret 0 1 1
            regret 0 2 99
            regret 0 3 99
            regret 0 4 49
            regret 0 5 99
            regret 0 6 50
            fail 0 = 1
            cell 1..2 0 = 0
            cell 3 0 = 98
            cell 4..5 0 = 99
            cell 6 0 = 50
            about 9 = 6
            entry 0 5 = 600
            entry 0 4 = 500
            entry 0 3 = 450
            entry 0 2 = 399
            entry 0 1 = 201
            entry 0 0 = 199
            new
            begin 0
            6 * regret 0 1 99
            fail 0 = 0
            cell 1 0 = 94 // the remainder each time
            """);
        the.holds("if there is a work around it, this is logged (also beyond 40 entries) and so belongs to that.", """
            setMercy 3
            begin 0
            point 0
            39 * write 0 1 5
            begin 0
            regret 0 2 1
            fail 0 = 1
            worker 0 1 = 40
            begin 0
            6 * regret 0 3 2
            fail 0 = 1
            worker 0 1 = 46
            entry 0 0 = 310
            entry 0 5 = 300
            entry 0 6 = 200
            entry 0 45 = 100
            entry 0 46 = -1
            whyNot 0 0 = 4
            lost 0 0 = 3
            back 0 0 = 46
            cell 1..3 0 = 0
            new
            begin 0
            begin 0
            begin 0
            regret 0 4 4
            fail 0 = 1
            cell 4 0 = 4
            fail 0 = 1
            cell 4 0 = 0 // it failed with the work around it
            """);
        the.holds("Then, if it was the outermost, all is over: the log is empty, and all locks of the worker are gone.", """
            begin 1
            regret 1 0 1
            begin 0
            write 0 1 5
            6 * regret 0 2 6
            fail 0 = 0
            worker 0 0..2 = 0
            entry 0 0 = -1
            cell 1 0 = 0
            cell 2 0 = 36
            cell 0 1 = 1 // the locks of the others stay
            begin 0 = 1
            work 0 0 0..4 = 0
            """);
    }

    private static void mercy() {
        the.holds("The mercy is from 0 to 3, at first 1.", """
            about 7 = 1
            setMercy -1 ! Argument
            setMercy 4 ! Argument
            about 7 = 1
            setMercy 0 = 1
            setMercy 3 = 0
            about 7 = 3
            """);
        String sentence = "if the work around it has forgiven fewer failures than the mercy, it forgives 1 more; if not, it"
            + " is spoiled.";
        the.holds(sentence, """
            setMercy 0
            begin 0
            begin 0
            fail 0 = 2
            work 0 0 3 = 0
            work 0 0 4 = 1
            about 5 = 0
            new
            begin 0
            begin 0
            fail 0 = 1
            work 0 0 3 = 1
            work 0 0 4 = 0
            begin 0
            fail 0 = 2
            work 0 0 3..4 = 1
            about 5 = 1
            """);
        the.holds(sentence, """
            setMercy 3
            begin 0
            begin 0
            fail 0 = 1
            begin 0
            fail 0 = 1
            begin 0
            fail 0 = 1
            work 0 0 3 = 3
            work 0 0 4 = 0
            begin 0
            fail 0 = 2
            work 0 0 3 = 3
            work 0 0 4 = 1
            """);
        the.holds(sentence, """
            setMercy 3
            begin 0
            begin 0
            fail 0 = 1
            begin 0
            fail 0 = 1
            setMercy 1 // less than it has forgiven
            begin 0
            fail 0 = 2
            work 0 0 3 = 2
            work 0 0 4 = 1
            new
            begin 0
            begin 0
            fail 0 = 1
            setMercy 2 // more than it has forgiven
            begin 0
            fail 0 = 1
            work 0 0 3 = 2
            begin 0
            fail 0 = 2
            """);
    }

    // ---- text

    private static void textBuffer() {
        the.holds("The object has a text buffer of at most 120 characters.", """
            120 * append 87
            append 87 ! State
            errorPosition = 1
            clearText = 120
            append 87 = 1
            errorPosition = -1
            """);
        the.holds("The object has a text buffer of at most 120 characters.",
            "type Wr00" + "m1".repeat(57) + "m3\n" + """
            errorPosition = -1
            load = 1
            about 7 = 3
            append 109 ! State
            clearText = 120
            """);
    }

    private static void stories() {
        the.holds("A story is the letter W, and then any number of commands", """
            errorPosition = 0
            load ! State
            append 87
            errorPosition = -1
            load = 0
            text w = 0
            text V = 0
            text X = 0
            text b0 = 0
            text WW = 1
            """);
        the.holds("any number of commands", "type W" + "m2".repeat(59) + """

            errorPosition = -1
            load = 0
            about 7 = 2
            """);
        for (String letter : new String[] {"b", "p", "d", "f", "s", "r", "g"}) {
            String rest = letter.equals("s") || letter.equals("g") ? "00001" : letter.equals("r") ? "00" : "0";
            String behind = rest.substring(1);
            the.holds("each of a letter, a digit for a worker (0 to 2), and what follows", """
                text WL0 = -1
                text WL1 = -1
                text WL2 = -1
                text WL3 = 2
                text WL9 = 2
                text WL/ = 2
                text WL: = 2
                text WLL = 2
                """.replaceAll("L([0-2]) ", letter + "$1" + behind + " ").replace("L", letter));
        }
        the.holds("each of a letter", """
            text Wa0 = 1
            text Wc0 = 1
            text We0 = 1
            text Wq0 = 1
            text Wt0 = 1
            text WB0 = 1
            text WM0 = 1
            text W0 = 1
            text Wb0b = 4
            text Wb00 = 3
            """);
        the.holds("There are no blanks.", """
            type W
            append 32
            errorPosition = 1
            load ! State
            new
            type Wb
            append 32
            append 48
            errorPosition = 2
            load ! State
            new
            type Wb0
            append 32
            errorPosition = 3
            load ! State
            new
            append 32
            append 87
            errorPosition = 0
            load ! State
            """);
    }

    private static void commands() {
        the.holds("b: begin()", """
            text Wb = 2
            text Wb0 = -1
            text Wb2 = -1
            text Wb3 = 2
            text Wb00 = 3
            new
            story Wb0b0b0b0b0 = 0
            worker 0 0 = 5
            """);
        the.holds("d: done(); f: fail().", """
            text Wd00 = 3
            text Wf00 = 3
            new
            story Wb0b0d0d0b0b0f0f0d0f0 = 2
            about 3..5 = 1
            worker 0 0 = 0
            """);
        the.holds("s, two digits for a cell (00 to 15) and two for a value (00 to 99): write()", """
            text Ws00000 = -1
            text Ws00999 = -1
            text Ws01099 = -1
            text Ws01599 = -1
            text Ws016 = 4
            text Ws019 = 4
            text Ws02 = 3
            text Ws09 = 3
            new
            story Wb0s01599s00000 = 0
            cell 15 0 = 99
            cell 0 0 = 0
            worker 0 1 = 2
            """);
        the.holds("p: point(); r and a digit for a point (0 to 3): back()", """
            text Wr00 = -1
            text Wr23 = -1
            text Wr04 = 3
            text Wr09 = 3
            text Wr30 = 2
            text Wr000 = 4
            text Wp00 = 3
            new
            story Wb0p0s00101p0p0p0s00202r03 = 0
            cell 1 0 = 1
            cell 2 0 = 0
            work 0 0 1 = 4
            story Wb0p0s00101p0p0p0s00202r00 = 0
            cell 1 0 = 0
            work 0 0 1 = 1
            """);
        the.holds("g, two digits for a cell and two for a number (01 to 99): regret()", """
            text Wg00001 = -1
            text Wg00010 = -1
            text Wg01599 = -1
            text Wg00000 = 6
            text Wg01500 = 6
            text Wg016 = 4
            text Wg02 = 3
            new
            story Wb0g00001g01599f0 = 0
            cell 0 0 = 1
            cell 15 0 = 99
            """);
        the.holds("There is also the letter m and a digit for the mercy (0 to 3), without a worker.", """
            text Wm0 = -1
            text Wm3 = -1
            text Wm4 = 2
            text Wm9 = 2
            text Wm/ = 2
            text Wm00 = 3
            text Wm = 2
            new
            story Wm1m1 = 0 // the mercy that it is already
            story Wm0 = 0
            about 7 = 0
            story Wm3 = 0
            about 7 = 3
            """);
    }

    private static void commandsLeftOut() {
        the.holds("Commands that would throw an exception are left out.", """
            story Wd0f0p0r00s00101g00101 = 6 // without a work
            about 8 = 0
            story Wb0b0b0b0b0b0 = 1 // with 5 works
            worker 0 0 = 5
            story Wb0p0p0p0p0p0 = 1 // with 4 points
            work 0 0 1 = 4
            story Wb0r00p0r01r00 = 2 // points that are not there
            story Wb0b1s00133s10144g10101 = 2 // a locked cell
            cell 1 0 = 33
            """);
        the.holds("Commands that would throw an exception are left out.", """
            story Wb0g00101g00101g00101g00101g00101g00101g00101 = 1 // with 6 regrets
            work 0 0 2 = 6
            story Wm0b0p0b0f0b0s00101p0r00g00101d0m2 = 6 // in a spoiled work
            about 7 = 2
            about 8 = 0
            worker 0 0 = 1
            story Wm0b0b0f0f0d0 = 1 // which can fail
            worker 0 0 = 0
            """);
    }

    private static void errorPositions() {
        the.holds("The error position is the index of the first character that these rules do not allow at its place (a"
            + " digit is not allowed if no number that is allowed begins with it and those before it)", """
            text Ws02 = 3
            text Ws03399 = 3
            text Ws016 = 4
            text Ws01699 = 4
            text Wg20000 = 6
            text Wg20001 = -1
            text Wg20010 = -1
            text Wg20090 = -1
            text Wb3b3 = 2
            text Wb0b3 = 4
            text xWb3 = 0
            text Ws0a0000 = 3
            text Ws00a000 = 4
            text Ws000a00 = 5
            text Ws0000a0 = 6
            text Ws00000a = 7
            text Ws00/ = 4
            text Ws00: = 4
            """);
        the.holds("the index of the first character that these rules do not allow", """
            append 0
            errorPosition = 0
            clearText = 1
            append 255
            errorPosition = 0
            clearText = 1
            append 87
            append 255
            errorPosition = 1
            clearText = 2
            append 87
            append 98
            append 178 // a two raised: no digit from 0 to 2
            errorPosition = 2
            """);
        the.holds("if the text ends too soon, it is the length of the text.", """
            errorPosition = 0
            text Wb = 2
            text Wp = 2
            text Wd = 2
            text Wf = 2
            text Wm = 2
            text Wr = 2
            text Wr0 = 3
            text Ws = 2
            text Ws0 = 3
            text Ws01 = 4
            text Ws015 = 5
            text Ws0159 = 6
            text Wg = 2
            text Wg0 = 3
            text Wg01 = 4
            text Wg015 = 5
            text Wg0150 = 6
            load ! State
            """);
        the.holds("if the text ends too soon, it is the length of the text.",
            "text W" + "m1".repeat(59) + "b = 120\nload ! State");
    }

    // ---- actions and undo

    private static void actions() {
        the.holds("change the state, which consists of everything but the text and the save slots.", """
            begin 0
            save 0 = 0
            type Wm3
            write 0 1 5
            save 1 = 5
            begin 0
            fail 0 = 1
            setMercy 3
            undo = 4
            undo = 3
            undo = 2
            undo = 1
            about 5 = 0
            about 7 = 1
            about 8 = 0
            undo = 0
            clearText = 3 // what is neither is not taken back
            restore 1 = 5
            restore 0 = 0
            worker 0 0 = 1
            """);
        the.holds("change the state, which consists of everything but the text and the save slots.", """
            save 0
            begin 0
            write 0 15 99
            done 0
            begin 1
            regret 1 0 1
            fail 1
            setMercy 0
            begin 2
            begin 2
            fail 2
            setMercy 1
            save 1
            undo = 10
            about 7 = 0
            about 3..4 = 1
            about 6 = 1
            about 8..9 = 1
            undo = 9
            about 6 = 0
            2 * undo
            undo = 6
            about 7 = 1
            undo = 5
            about 4 = 0
            about 9 = 0
            worker 1 4 = 0
            2 * undo
            undo = 2
            about 3 = 0
            worker 0 3 = 0
            undo = 1
            about 8 = 0
            about 0..1 = 0
            restore 1 = 100
            about 3..4 = 1
            about 8..9 = 1
            worker 0 3 = 1
            worker 1 4 = 1
            restore 0 = 0
            about 3..4 = 0
            about 8..9 = 0
            worker 0 3 = 0
            worker 1 4 = 0
            """);
        the.holds("Each call of one of them that does not throw an exception is an action, also if nothing becomes"
            + " different (undo is none).", """
            setMercy 1 = 1 // nothing becomes different
            undo = 0
            undo ! State
            begin 0
            point 0
            back 0 0 = 0 // nothing becomes different
            regret 0 2 2
            write 0 1 0
            begin 0
            fail 0 = 1
            begin 0
            done 0
            done 0
            setMercy 1
            undo = 10
            undo = 9
            undo = 8
            undo = 7
            undo = 6
            undo = 5
            undo = 4
            undo = 3
            undo = 2
            undo = 1
            undo = 0
            undo ! State
            """);
        the.holds("Each call of one of them that does not throw an exception is an action", """
            begin 0
            begin 3 ! Index
            write 0 0 100 ! Argument
            back 0 0 ! Index
            setMercy 4 ! Argument
            done 1 ! State
            whyNot 0 0 = 0
            save 0 = 0
            simulate 1 99
            undo = 0
            undo ! State
            """);
    }

    private static void remembered() {
        StringBuilder fourteen = new StringBuilder();
        for (int left = 13; left >= 0; left--) {
            fourteen.append("undo = ").append(left).append('\n');
        }
        the.holds("At most 14 states are remembered", "begin 0\nwrite 0 1 1..13\n" + fourteen + """
            worker 0 0 = 0
            undo ! State
            """);
        the.holds("when one more is remembered, the oldest one is forgotten.", "begin 0\nwrite 0 1 1..14\n" + fourteen + """
            worker 0 0 = 1 // the state before begin is forgotten
            cell 1 0 = 0
            undo ! State
            """);
        the.holds("when one more is remembered, the oldest one is forgotten.", "begin 0\nwrite 0 1 1..20\n" + """
            undo = 13
            undo = 12
            cell 1 0 = 18
            write 0 2 1..5
            """ + fourteen + """
            cell 1 0 = 9
            cell 2 0 = 0
            undo ! State
            write 0 3 1..20
            """ + fourteen + """
            cell 3 0 = 6
            undo ! State
            """);
        the.holds("load and restore are not actions.", """
            save 0
            restore 0 = 0
            undo ! State
            append 87
            load = 0
            undo ! State
            setMercy 2
            undo = 0
            """);
    }

    // ---- exceptions

    private static void exceptions() {
        the.holds("IndexOutOfBoundsException means that a cell, a worker, a work or a point does not exist", """
            worker -1,3,min,max 0 ! Index
            work -1,3,min,max 0 0 ! Index
            entry -1,3,min,max 0 ! Index
            begin -1,3,min,max ! Index
            write -1,3,min,max 0 0 ! Index
            point -1,3,min,max ! Index
            back -1,3,min,max 0 ! Index
            regret -1,3,min,max 0 1 ! Index
            done -1,3,min,max ! Index
            fail -1,3,min,max ! Index
            whyNot -1,3,min,max 0 ! Index
            failed -1,3,min,max 0 0 ! Index
            changes -1,3,min,max ! Index
            lost -1,3,min,max 0 ! Index
            mercyLeft -1,3,min,max ! Index
            begin 0
            cell -1,16,min,max 0 ! Index
            write 0 -1,16,min,max 0 ! Index
            regret 0 -1,16,min,max 1 ! Index
            whyNot 0 -1,16,min,max ! Index
            failed 0 -1,16,min,max 0 ! Index
            work 0 -1,1,5,min,max 0 ! Index
            back 0 -1,0,4,min,max ! Index
            lost 0 -1,0,4,min,max ! Index
            point 0 = 0
            back 0 -1,1,4,min,max ! Index
            lost 0 -1,1,4,min,max ! Index
            begin 0
            back 0 0 ! Index
            lost 0 0 ! Index
            """);
        the.holds("or that a save slot is not 0 or 1.", """
            save -1,2,min,max ! Index
            save 0..1 = 0
            restore -1,2,min,max ! Index
            restore 0..1 = 0
            """);
        the.holds("IllegalArgumentException means that another argument is out of its range.", """
            begin 0
            append -1,256,min,max ! Argument
            about -1,10,min,max ! Argument
            cell 0 -1,3,min,max ! Argument
            worker 0 -1,6,min,max ! Argument
            work 0 0 -1,5,min,max ! Argument
            entry 0 -1,min ! Argument
            write 0 0 -1,100,min,max ! Argument
            regret 0 0 -1,0,100,min,max ! Argument
            setMercy -1,4,min,max ! Argument
            failed 0 0 -1,6,min,max ! Argument
            runScript -1,0,4,min,max 0 ! Argument
            runScript 1..3 -1,min,max ! Argument
            runScript 1 100000 ! Argument
            simulate 0,min,max -1,0,100,min,max ! Argument
            entry 0 max = -1
            """);
    }

    private static void firstException() {
        String sentence = "If several exceptions apply to a call, the one that its description names first is thrown.";
        the.holds(sentence, """
            cell -1,16 -1,3 ! Index
            worker -1,3 -1,6 ! Index
            work -1,3 -1 -1,5 ! Index
            work 0 0 -1,5 ! Index // it has no work
            entry -1,3 -1 ! Index
            failed -1,3 16 -1,6 ! Index
            failed 0 -1,16 -1,6 ! Index
            write -1,3 16 100 ! Index
            write 0 -1,16 -1,100 ! Index
            write 0 0 -1,100 ! Argument
            regret -1,3 16 0 ! Index
            regret 0 -1,16 0,100 ! Index
            regret 0 0 0,100 ! Argument
            back 0 0 ! Index
            begin -1,3 ! Index
            point -1,3 ! Index
            done -1,3 ! Index
            fail -1,3 ! Index
            restore -1,2 ! Index
            120 * append 87
            append -1,256 ! Argument
            """);
        the.holds(sentence, """
            setMercy 0
            begin 0
            point 0
            begin 1
            write 1 7 7
            write 0 7 -1,100 ! Argument // locked
            regret 0 7 0,100 ! Argument
            6 * regret 0 1 1
            regret 0 1 0,100 ! Argument // full
            regret 0 -1,16 1 ! Index
            40 * write 0 1 1
            write 0 1 -1,100 ! Argument // full
            write 0 -1,16 1 ! Index
            begin 0
            fail 0 = 2
            write 0 1 -1,100 ! Argument // spoiled
            write 0 -1,16 1 ! Index
            regret 0 1 0,100 ! Argument
            regret 0 -1,16 1 ! Index
            back 0 -1,1 ! Index
            back 0 0 ! State
            """);
    }

    private static void callsThatChangeNothing() {
        String sentence = "A call that throws an exception changes nothing.";
        the.keeps(sentence, "", """
            append -1,256 ! Argument
            load ! State
            about 10 ! Argument
            write 0 0 1 ! State
            point 0 ! State
            back 0 0 ! Index
            regret 0 0 1 ! State
            done 0 ! State
            fail 0 ! State
            undo ! State
            lost 0 0 ! Index
            restore 0..1 ! State
            """);
        the.keeps(sentence, """
            type Wb3
            begin 0
            save 0
            write 0 1 10
            point 0
            regret 0 2 20
            begin 0
            write 0 1 30
            regret 0 3 40
            begin 1
            write 1 7 7
            setMercy 2
            """, """
            append -1,256 ! Argument
            load ! State
            about -1 ! Argument
            cell 16 0 ! Index
            cell 0 3 ! Argument
            worker 3 0 ! Index
            worker 0 6 ! Argument
            work 0 2 0 ! Index
            work 0 0 5 ! Argument
            entry 3 0 ! Index
            entry 0 -1 ! Argument
            begin 3 ! Index
            write 3 0 0 ! Index
            write 0 16 0 ! Index
            write 0 1 100 ! Argument
            write 0 7 1 ! State
            write 2 0 1 ! State
            point 3 ! Index
            point 2 ! State
            back 3 0 ! Index
            back 0 0 ! Index
            back 2 0 ! Index
            regret 3 0 1 ! Index
            regret 0 16 1 ! Index
            regret 0 1 0 ! Argument
            regret 0 7 1 ! State
            regret 2 0 1 ! State
            done 3 ! Index
            done 2 ! State
            fail 3 ! Index
            fail 2 ! State
            setMercy 4 ! Argument
            whyNot 3 0 ! Index
            failed 0 0 6 ! Argument
            changes 3 ! Index
            lost 0 0 ! Index
            mercyLeft 3 ! Index
            runScript 4 0 ! Argument
            runScript 1 100000 ! Argument
            simulate 0 100 ! Argument
            save 2 ! Index
            restore 2 ! Index
            restore 1 ! State
            """);
        callsThatFindNoRoom(sentence);
    }

    private static void callsThatFindNoRoom(String sentence) {
        the.keeps(sentence, """
            begin 1
            6 * regret 1 1 1
            4 * point 1
            40 * write 1 2 2
            begin 2
            begin 2
            begin 2
            begin 2
            begin 2
            """, """
            regret 1 1 1 ! State
            regret 1 3 1 ! State
            point 1 ! State
            write 1 2 1 ! State
            write 1 3 1 ! State
            begin 2 ! State
            """);
        the.keeps(sentence, """
            setMercy 0
            begin 0
            write 0 1 1
            regret 0 2 2
            point 0
            write 0 1 2
            begin 0
            fail 0
            """, """
            begin 0 ! State
            write 0 1 3 ! State
            point 0 ! State
            back 0 0 ! State
            back 0 1 ! Index
            regret 0 1 1 ! State
            done 0 ! State
            """);
        the.keeps(sentence, "120 * append 87", """
            append 87 ! State
            load ! State
            """);
    }

    private static void callsThatOnlyTell() {
        String sentence = "these and all following methods up to the save slots change nothing";
        String calls = """
            whyNot 0..2 0 = 1
            failed 0..2 0 5 = 0
            changes 0..2 = -1
            lost 0 0 ! Index
            mercyLeft 0..2 = -1
            runScript 3 100002001910003 = -1
            simulate max 99
            """;
        the.keeps(sentence, "", calls);
        the.keeps(sentence, """
            setMercy 2
            begin 0
            point 0
            write 0 1 10
            regret 0 2 20
            point 0
            save 1
            begin 0
            fail 0
            write 0 1 30
            begin 1
            write 1 7 7
            regret 1 7 7
            type Wb0
            """, """
            whyNot 0 7 = 3
            whyNot 1 7 = 0
            failed 0 1 1..5 = 0
            failed 0 2 1..5 = 20
            failed 1 7 5 = 7
            changes 0 = 2
            changes 1 = 0
            lost 0 0..1 = 1
            mercyLeft 0 = 2
            mercyLeft 1 = 3
            runScript 3 100002001910003 = -1
            runScript 3 300001000210002 = 2
            runScript 2 1100271000 = -1
            simulate 0..4 99
            """);
        the.is("NONE = -1: There is no such result.", "ForgivenWork.NONE", ForgivenWork.NONE, -1);
        the.holds("NONE = -1: There is no such result.", """
            errorPosition = 0
            append 87
            errorPosition = -1
            cell 0 1 = -1
            entry 0 0 = -1
            changes 0 = -1
            mercyLeft 0 = -1
            runScript 1 72000 = -1
            """);
    }
}
