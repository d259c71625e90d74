import java.io.IOException;
import java.math.BigInteger;

/** Each sentence of the document's promises that names a boundary case, held against calls. */
public final class BoundariesTest {
    private static final BigInteger FACTOR = new BigInteger("6364136223846793005");
    private static final BigInteger SUMMAND = new BigInteger("1442695040888963407");
    private static final BigInteger LONGS = BigInteger.ONE.shiftLeft(64);

    private static Sentences the;

    public static void main(String[] args) throws IOException {
        the = new Sentences("BoundariesTest");
        newObject();
        append();
        clearText();
        errorPosition();
        load();
        about();
        cell();
        worker();
        work();
        entry();
        begin();
        write();
        point();
        back();
        regret();
        done();
        fail();
        setMercy();
        undo();
        whyNot();
        failed();
        changes();
        lost();
        mercyLeft();
        scriptNumbers();
        scriptActions();
        scriptQuestions();
        scriptGroups();
        simulate();
        save();
        restore();
        the.end();
    }

    private static void newObject() {
        the.in("Promise 1:");
        the.holds("Creates cells that are 0, and workers without works.", """
            cell 0..15 0 = 0
            cell 0..15 1 = -1
            cell 0..15 2 = 0
            worker 0..2 0..5 = 0
            work 0..2 0 0 ! Index
            entry 0..2 0 = -1
            about 0..6 = 0
            about 7 = 1
            about 8..9 = 0
            errorPosition = 0
            undo ! State
            restore 0..1 ! State
            clearText = 0
            """);
    }

    private static void append() {
        the.in("Promise 2:");
        the.holds("c: character code, 0 to 255", """
            append 0 = 1
            append 255 = 2
            append -1 ! Argument
            append 256 ! Argument
            clearText = 2
            """);
        the.holds("Returns the new length of the text.", """
            append 87 = 1
            append 98 = 2
            117 * append 48
            append 48 = 120
            clearText = 120
            append 87 = 1
            """);
        the.holds("Throws IllegalArgumentException if c is out of range", """
            append -1,256,min,max ! Argument
            120 * append 0
            append -1,256,min,max ! Argument
            """);
        the.holds("Throws IllegalStateException if the text already has 120 characters", """
            119 * append 87
            append 87 = 120
            append 87 ! State
            append 0,255 ! State
            clearText = 120
            """);
    }

    private static void clearText() {
        the.in("Promise 3:");
        the.holds("Empties the text buffer.", """
            type Wb0
            errorPosition = -1
            clearText
            errorPosition = 0
            load ! State
            append 87 = 1
            errorPosition = -1 // nothing of the old text is left
            load = 0
            worker 0 0 = 0
            """);
        the.holds("Returns the previous length of the text.", """
            clearText = 0
            append 87
            clearText = 1
            clearText = 0
            120 * append 87
            clearText = 120
            clearText = 0
            """);
    }

    private static void errorPosition() {
        the.in("Promise 4:");
        the.holds("Returns the error position of the text; NONE if it is a story.", """
            errorPosition = 0
            append 87
            errorPosition = -1
            append 98
            errorPosition = 2
            append 51
            errorPosition = 2
            append 48
            errorPosition = 2
            """);
    }

    private static void load() {
        the.in("Promise 5:");
        the.holds("Makes everything as in a new object, and then does the commands of the text.", """
            setMercy 3
            begin 0
            write 0 0 10
            write 0 15 10
            regret 0 2 20
            point 0
            begin 0
            fail 0
            begin 2
            regret 2 3 30
            fail 2
            begin 1
            done 1
            story W = 0
            about 0..6 = 0
            about 7 = 1
            about 8..9 = 0
            cell 0..15 0 = 0
            cell 0..15 1 = -1
            worker 0..2 0..5 = 0
            entry 0..2 0 = -1
            begin 0 = 1
            work 0 0 0..4 = 0
            regret 0 1 1 = 1
            fail 0 = 0
            cell 1 0 = 1
            cell 2 0 = 0
            load = 0
            cell 1 0 = 0
            """);
        the.holds("Makes everything as in a new object, and then does the commands of the text.", """
            story Wb0p0p0p0p0b0p0p0p0p0b0p0p0p0p0b0p0p0p0p0b0p0p0p0p0 = 0 // as many works and points as there can be
            8 * load = 0
            work 0 0..4 1 = 4
            write 0 1 1
            lost 0 3 = 1
            back 0 3 = 1
            """);
        the.holds("Behind it no state is remembered, and both save slots are empty. Keeps the text.", """
            setMercy 3
            save 0..1
            story Wb0 = 0
            undo ! State
            restore 0..1 ! State
            errorPosition = -1
            save 1
            load = 0
            restore 1 ! State
            clearText = 3
            """);
        the.holds("Returns the number of commands that are left out.", """
            story W = 0
            story Wb0 = 0
            story Wd0 = 1
            story Wd0b0d0d0 = 2
            """);
        the.holds("Returns the number of commands that are left out.", "story W" + "d0".repeat(59) + " = 59");
        the.holds("Throws IllegalStateException if the text is not a story", """
            load ! State // empty
            type Wb
            load ! State // too soon at its end
            append 51
            load ! State // a worker that does not exist
            clearText
            append 98
            load ! State
            clearText
            append 87
            load = 0
            """);
    }

    private static void about() {
        the.in("Promise 6:");
        the.holds("0: the sum of all values", """
            about 0 = 0
            begin 0
            write 0 0..15 99
            about 0 = 1584
            fail 0
            about 0 = 0
            """);
        the.holds("1: the number of locked cells", """
            about 1 = 0
            begin 0..2
            write 0 0..5 0
            regret 1 6..11 1
            write 2 12..15 0
            about 1 = 16
            done 0..2
            about 1 = 0
            """);
        the.holds("2: of works that are not over", """
            about 2 = 0
            5 * begin 0
            5 * begin 1
            5 * begin 2
            about 2 = 15
            done 0
            fail 1
            about 2 = 13
            """);
        the.holds("3: of outermost works that were done so far; 4: of those that failed so far", """
            about 3..4 = 0
            begin 0
            begin 0
            done 0 = 1
            begin 0
            fail 0 = 1
            about 3..4 = 0 // these were no outermost ones
            done 0 = 0
            about 3 = 1
            about 4 = 0
            begin 1
            fail 1 = 0
            begin 2
            begin 2
            fail 2 = 1
            begin 2
            fail 2 = 2
            fail 2 = 0 // spoiled
            about 3 = 1
            about 4 = 2
            """);
        the.holds("5: of failures that were forgiven so far; 6: of works that are spoiled now", """
            setMercy 0
            about 5..6 = 0
            begin 0..2
            begin 0..2
            fail 0..2 = 2
            about 5 = 0
            about 6 = 3
            fail 0..2 = 0
            about 6 = 0
            setMercy 3
            begin 0
            begin 0
            fail 0 = 1
            begin 0
            fail 0 = 1
            done 0 = 0
            about 5 = 2 // also of works that are over
            """);
        the.holds("8: the writes so far (by write(), undone or not)", """
            about 8 = 0
            begin 0
            point 0
            write 0 1 0 // the value that it has already
            write 0 1 1
            back 0 0 = 2
            about 8 = 2
            begin 0
            write 0 1 2
            regret 0 1 1
            fail 0 = 1
            about 8 = 3 // a regret is no write
            write 0 1 100 ! Argument
            write 1 1 1 ! State
            about 8 = 3
            fail 0 = 0
            about 8 = 3
            begin 0
            40 * write 0 1 1
            write 0 1 1 ! State
            about 8 = 43
            """);
        the.holds("9: the regrets that were done so far", """
            about 9 = 0
            begin 0
            regret 0 1 1
            about 9 = 0
            done 0
            about 9 = 0 // gone undone
            begin 0
            point 0
            regret 0 1 1
            back 0 0
            fail 0 = 0
            about 9 = 0 // gone with what was behind the point
            begin 0
            begin 0
            6 * regret 0 1 1
            fail 0 = 1
            about 9 = 6
            regret 0 1 1
            fail 0 = 0
            about 9 = 7 // undone or not
            """);
        the.holds("7: the mercy", """
            about 7 = 1
            setMercy 0
            about 7 = 0
            setMercy 3
            about 7 = 3
            """);
        the.holds("Throws IllegalArgumentException if what is not 0 to 9", """
            about -1,10,min,max ! Argument
            about 0 = 0
            about 9 = 0
            """);
    }

    private static void cell() {
        the.in("Promise 7:");
        the.holds("0: its value", """
            cell 0,15 0 = 0
            begin 0
            write 0 0 99
            write 0 15 1
            cell 0 0 = 99
            cell 15 0 = 1
            write 0 0 0
            cell 0 0 = 0
            """);
        the.holds("1: the worker that has locked it, NONE if none has", """
            cell 0,15 1 = -1
            begin 0
            begin 2
            write 0 0 1
            regret 2 15 1
            cell 0 1 = 0
            cell 15 1 = 2
            done 0
            fail 2
            cell 0,15 1 = -1
            """);
        the.holds("2: the value before in the oldest entry for it in the log of that worker; its value, if there is none,"
            + " or if nobody has locked it", """
            cell 0 2 = 0
            begin 0
            write 0 0 5
            write 0 15 6
            done 0
            cell 0 2 = 5 // nobody has locked it
            begin 1
            regret 1 0 7
            cell 0 2 = 5 // locked, but without an entry
            write 1 0 8
            cell 0 2 = 5
            write 1 0 9
            write 1 15 99
            cell 0 0 = 9
            cell 0 2 = 5
            cell 15 2 = 6
            begin 0
            38 * write 0 1 1..1
            write 0 2 2
            write 0 2 3
            cell 2 2 = 0 // the last ones of a full log
            cell 0 2 = 5 // of the worker that has locked it
            new
            begin 0
            point 0
            write 0 0 9
            back 0 0 = 1
            cell 0 1 = 0
            cell 0 2 = 0 // the entry is gone, the lock is not
            """);
        the.holds("Throws IndexOutOfBoundsException if there is no such cell", """
            cell -1,16,min,max 0..2 ! Index
            cell -1,16 3 ! Index
            cell 0,15 0 = 0
            """);
        the.holds("Throws IllegalArgumentException if what is not 0 to 2", "cell 0,15 -1,3,min,max ! Argument");
    }

    private static void worker() {
        the.in("Promise 8:");
        the.holds("0: the number of its works", """
            worker 2 0 = 0
            5 * begin 2
            worker 2 0 = 5
            worker 0..1 0 = 0
            """);
        the.holds("1: of entries in its log", """
            worker 2 1 = 0
            begin 2
            40 * write 2 1 1
            worker 2 1 = 40
            begin 2
            6 * regret 2 1 1
            fail 2 = 1
            worker 2 1 = 46
            done 2 = 0
            worker 2 1 = 0
            """);
        the.holds("2: of cells that it has locked", """
            worker 2 2 = 0
            begin 2
            write 2 0..14 0
            write 2 0 1
            worker 2 2 = 15
            regret 2 15 1
            worker 2 2 = 16
            worker 0..1 2 = 0
            done 2
            worker 2 2 = 0
            """);
        the.holds("3: of outermost works of it that were done so far; 4: of those that failed so far", """
            worker 2 3..4 = 0
            begin 2
            begin 2
            done 2
            begin 2
            fail 2
            worker 2 3..4 = 0
            done 2
            worker 2 3 = 1
            worker 2 4 = 0
            begin 2
            fail 2
            worker 2 3..4 = 1
            worker 0..1 3..4 = 0
            """);
        the.holds("5: 1 if its innermost work is spoiled, otherwise 0 (also without one)", """
            setMercy 0
            worker 0..2 5 = 0
            begin 0
            worker 0 5 = 0
            begin 0
            fail 0 = 2
            worker 0 5 = 1
            worker 1..2 5 = 0
            fail 0
            worker 0 5 = 0
            """);
        the.holds("Throws IndexOutOfBoundsException if there is no such worker", """
            worker -1,3,min,max 0..5 ! Index
            worker -1,3 -1,6 ! Index
            """);
        the.holds("Throws IllegalArgumentException if what is not 0 to 5", "worker 0..2 -1,6,min,max ! Argument");
    }

    private static void work() {
        the.in("Promise 9:");
        the.holds("i: which of its works, from 0, the outermost", """
            begin 0
            write 0 1 1
            begin 0
            write 0 1 2
            begin 0
            work 0 0 0 = 0
            work 0 1 0 = 1
            work 0 2 0 = 2
            """);
        the.holds("0: how long the log was when it began; 1: the number of its points; 2: of its regrets; 3: how many"
            + " failures it has forgiven; 4: 1 if it is spoiled, otherwise 0", """
            setMercy 3
            begin 0
            work 0 0 0..4 = 0
            40 * write 0 1 1
            begin 0
            work 0 1 0 = 40
            work 0 1 1..4 = 0
            4 * point 0
            6 * regret 0 1 1
            begin 0
            fail 0 = 1
            begin 0
            fail 0 = 1
            begin 0
            fail 0 = 1
            work 0 1 4 = 0
            begin 0
            fail 0 = 2
            work 0 1 0 = 40
            work 0 1 1 = 4
            work 0 1 2 = 6
            work 0 1 3 = 3
            work 0 1 4 = 1
            work 0 0 0..4 = 0
            """);
        the.holds("Throws IndexOutOfBoundsException if there is no such worker or work", """
            work 0..2 0 0 ! Index
            begin 0
            work 0 0 0 = 0
            work 0 -1,1,4,5,min,max 0 ! Index
            work 1 0 0 ! Index
            work -1,3,min,max 0 0 ! Index
            4 * begin 0
            work 0 4 0 = 0
            work 0 5 0 ! Index
            work 0 5 5 ! Index
            done 0
            work 0 4 0 ! Index
            """);
        the.holds("Throws IllegalArgumentException if what is not 0 to 4", """
            begin 0
            work 0 0 -1,5,min,max ! Argument
            """);
    }

    private static void entry() {
        the.in("Promise 10:");
        the.holds("k: which one, from 0, the newest first", """
            begin 0
            write 0 1 10
            write 0 2 20
            write 0 1 30
            entry 0 0 = 110
            entry 0 1 = 200
            entry 0 2 = 100
            """);
        the.holds("Returns 100 * (the cell) + (the value that it had before); NONE if there are not so many.", """
            entry 0 0 = -1
            begin 0
            entry 0 0 = -1
            write 0 0 99
            write 0 15 99
            write 0 15 98
            write 0 0 98
            entry 0 0 = 99
            entry 0 1 = 1599
            entry 0 2 = 1500
            entry 0 3 = 0
            entry 0 4,5,40,max = -1
            36 * write 0 3 3
            entry 0 39 = 0
            entry 0 40 = -1
            entry 1 0 = -1
            begin 0
            regret 0 15 1
            fail 0 = 1
            entry 0 0 = 1598
            entry 0 40 = 0 // the log is beyond 40
            entry 0 41 = -1
            done 0 = 0
            entry 0 0 = -1
            """);
        the.holds("Throws IndexOutOfBoundsException if there is no such worker", "entry -1,3,min,max -1,0,max ! Index");
        the.holds("Throws IllegalArgumentException if k is negative", """
            entry 0 -1,min ! Argument
            entry 0 0,max = -1
            begin 0
            write 0 0 1
            entry 0 -1,min ! Argument
            entry 0 0 = 0
            """);
    }

    private static void begin() {
        the.in("Promise 11:");
        the.holds("Returns the number of its works then.", """
            begin 0 = 1
            begin 0 = 2
            begin 1 = 1
            begin 0 = 3
            begin 0 = 4
            begin 0 = 5
            """);
        the.holds("Throws IndexOutOfBoundsException if there is no such worker", "begin -1,3,min,max ! Index");
        the.holds("Throws IllegalStateException if it has 5, or the innermost one is spoiled", """
            4 * begin 0
            begin 0 = 5
            begin 0 ! State
            begin 1 = 1
            setMercy 0
            fail 0 = 2
            begin 0 ! State // 4 works, but spoiled
            setMercy 3
            begin 0 ! State
            fail 0 = 1
            begin 0 = 4
            begin 0 = 5
            """);
    }

    private static void write() {
        the.in("Promise 12:");
        the.holds("v: 0 to 99", """
            begin 0
            write 0 0 99 = 0
            write 0 0 0 = 99
            write 0 0 -1,100 ! Argument
            cell 0 0 = 0
            """);
        the.holds("Returns the value that it had before.", """
            begin 0
            write 0 15 99 = 0
            write 0 15 99 = 99
            write 0 15 1 = 99
            """);
        the.holds("Throws IndexOutOfBoundsException if there is no such worker or cell", """
            begin 0
            write -1,3,min,max 0 0 ! Index
            write 0 -1,16,min,max 0 ! Index
            write 0 16 100 ! Index
            """);
        the.holds("Throws IllegalArgumentException if v is out of range", """
            write 0 0 -1,100,min,max ! Argument // also without a work
            begin 0
            write 0 0 -1,100,min,max ! Argument
            """);
        the.holds("Throws IllegalStateException if whyNot(w, c) is not 0", """
            whyNot 0 0 = 1
            write 0 0 1 ! State
            begin 0..1
            write 1 5 1
            whyNot 0 5 = 3
            write 0 5 1 ! State
            39 * write 0 0 1
            whyNot 0 0 = 0
            write 0 0 1 = 1
            whyNot 0 0 = 4
            write 0 0 1 ! State
            setMercy 0
            begin 0
            fail 0
            whyNot 0 0 = 2
            write 0 0 1 ! State
            """);
    }

    private static void point() {
        the.in("Promise 13:");
        the.holds("Returns its number.", """
            begin 0
            point 0 = 0
            point 0 = 1
            begin 0
            point 0 = 0
            done 0
            point 0 = 2
            point 0 = 3
            back 0 1
            point 0 = 2
            """);
        the.holds("Throws IndexOutOfBoundsException if there is no such worker", "point -1,3,min,max ! Index");
        the.holds("Throws IllegalStateException if it has no work, or the innermost one is spoiled or has 4 points", """
            point 0 ! State
            begin 0
            3 * point 0
            point 0 = 3
            point 0 ! State
            begin 0
            point 0 = 0 // another innermost one
            fail 0 = 1
            point 0 ! State
            back 0 0
            begin 0
            fail 0 = 2
            point 0 ! State
            done 0 ! State
            fail 0 = 0
            point 0 ! State
            begin 0
            point 0 = 0
            """);
    }

    private static void back() {
        the.in("Promise 14:");
        the.holds("Returns how many entries of the log are undone (also those of regrets).", """
            begin 0
            point 0
            back 0 0 = 0
            40 * write 0 1 1
            begin 0
            6 * regret 0 2 2
            fail 0 = 1
            point 0
            back 0 1 = 0
            back 0 0 = 46
            back 0 0 = 0
            """);
        the.holds("Throws IndexOutOfBoundsException if there is no such worker or point (also if the worker has no work)", """
            back 0 0 ! Index
            back -1,3,min,max 0 ! Index
            begin 0
            back 0 0 ! Index
            point 0 = 0
            back 0 0 = 0
            back 0 -1,1,3,4,min,max ! Index
            back 1 0 ! Index
            3 * point 0
            back 0 4 ! Index
            back 0 3 = 0
            begin 0
            back 0 0 ! Index // the work around it has points, it has none
            done 0
            done 0
            back 0 0 ! Index
            """);
        the.holds("Throws IllegalStateException if the work is spoiled", """
            setMercy 0
            begin 0
            point 0
            begin 0
            fail 0 = 2
            back 0 0 ! State
            back 0 1 ! Index
            setMercy 3
            back 0 0 ! State
            """);
    }

    private static void regret() {
        the.in("Promise 15:");
        the.holds("n: 1 to 99", """
            begin 0
            regret 0 0 0,100 ! Argument
            regret 0 0 1 = 1
            regret 0 0 99 = 2
            """);
        the.holds("Returns the number of its regrets then.", """
            begin 0
            regret 0 0 1 = 1
            4 * regret 0 0 1
            regret 0 0 1 = 6
            begin 0
            regret 0 0 1 = 1
            """);
        the.holds("Throws IndexOutOfBoundsException if there is no such worker or cell", """
            begin 0
            regret -1,3,min,max 0 1 ! Index
            regret 0 -1,16,min,max 1 ! Index
            regret 0 16 0 ! Index
            """);
        the.holds("Throws IllegalArgumentException if n is out of range", """
            regret 0 0 -1,0,100,min,max ! Argument // also without a work
            begin 0
            regret 0 0 -1,0,100,min,max ! Argument
            """);
        the.holds("Throws IllegalStateException if whyNot(w, c) is 1 to 3, or the work has 6 regrets or more", """
            whyNot 0 0 = 1
            regret 0 0 1 ! State
            begin 0..1
            write 1 5 1
            whyNot 0 5 = 3
            regret 0 5 1 ! State
            40 * write 0 0 1
            whyNot 0 0 = 4
            regret 0 0 1 = 1 // 4 is no hindrance
            regret 0 1 1 = 2
            3 * regret 0 0 1
            regret 0 0 1 = 6
            regret 0 0 1 ! State
            begin 0
            regret 0 0 1 = 1
            done 0
            work 0 0 2 = 7
            regret 0 0 1 ! State // more than 6
            setMercy 0
            begin 0
            begin 0
            fail 0 = 2
            whyNot 0 0 = 2
            regret 0 0 1 ! State
            """);
    }

    private static void done() {
        the.in("Promise 16:");
        the.holds("Returns the number of its works then.", """
            5 * begin 0
            done 0 = 4
            done 0 = 3
            done 0 = 2
            done 0 = 1
            done 0 = 0
            """);
        the.holds("Throws IndexOutOfBoundsException if there is no such worker", "done -1,3,min,max ! Index");
        the.holds("Throws IllegalStateException if it has no work, or the innermost one is spoiled", """
            done 0 ! State
            begin 1
            done 0 ! State
            begin 0
            done 0 = 0
            done 0 ! State
            setMercy 0
            begin 0
            begin 0
            fail 0 = 2
            done 0 ! State
            setMercy 3
            done 0 ! State
            """);
    }

    private static void fail() {
        the.in("Promise 17:");
        the.holds("Returns 0 if it was the outermost, 1 if it is forgiven, 2 if the work around it is spoiled by it.", """
            begin 0
            fail 0 = 0
            begin 0
            begin 0
            fail 0 = 1
            begin 0
            fail 0 = 2
            fail 0 = 0
            setMercy 0
            begin 0
            begin 0
            begin 0
            fail 0 = 2
            fail 0 = 2
            fail 0 = 0
            begin 0
            fail 0 = 0 // no mercy is needed
            """);
        the.holds("Throws IndexOutOfBoundsException if there is no such worker", "fail -1,3,min,max ! Index");
        the.holds("Throws IllegalStateException if it has no work", """
            fail 0 ! State
            begin 1
            fail 0 ! State
            begin 0
            fail 0 = 0
            fail 0 ! State
            begin 0
            done 0
            fail 0 ! State
            """);
    }

    private static void setMercy() {
        the.in("Promise 18:");
        the.holds("mercy: 0 to 3", """
            setMercy 0 = 1
            setMercy 1 = 0
            setMercy 2 = 1
            setMercy 3 = 2
            about 7 = 3
            """);
        the.holds("Returns the previous one.", """
            setMercy 3 = 1
            setMercy 3 = 3
            setMercy 0 = 3
            setMercy 0 = 0
            """);
        the.holds("Throws IllegalArgumentException if mercy is out of range", """
            setMercy -1,4,min,max ! Argument
            about 7 = 1
            """);
    }

    private static void undo() {
        the.in("Promise 19:");
        the.holds("Takes back the last action that is remembered.", """
            begin 0
            write 0 1 10
            regret 0 2 20
            point 0
            write 0 1 30
            begin 0
            fail 0 = 1
            back 0 0 = 1
            undo = 7
            cell 1 0 = 30
            work 0 0 3 = 1
            undo = 6
            worker 0 0 = 2
            work 0 0 3 = 0
            undo = 5
            worker 0 0 = 1
            lost 0 0 = 1
            undo = 4
            undo = 3
            work 0 0 1 = 0
            undo = 2
            work 0 0 2 = 0
            cell 2 1 = -1
            undo = 1
            cell 1 0 = 0
            cell 1 1 = -1
            undo = 0
            worker 0 0 = 0
            """);
        the.holds("Takes back the last action that is remembered.", """
            begin 0
            regret 0 2 20
            point 0
            regret 0 3 30
            point 0
            setMercy 3
            back 0 0
            undo = 6
            back 0 1 = 0 // the later point is there again, and knows what it knew
            work 0 0 2 = 2
            back 0 0 = 0
            work 0 0 2 = 1
            undo = 7
            work 0 0 2 = 2
            done 0
            undo = 7
            fail 0 = 0 // the regrets are there again
            cell 2 0 = 20
            cell 3 0 = 30
            """);
        the.holds("Returns how many states are still remembered.", """
            setMercy 0
            undo = 0
            13 * setMercy 0
            undo = 12
            2 * setMercy 0
            undo = 13
            5 * setMercy 0
            undo = 13
            undo = 12
            """);
        the.holds("Throws IllegalStateException if none is remembered", """
            undo ! State
            setMercy 0
            undo = 0
            undo ! State
            15 * setMercy 0
            14 * undo
            undo ! State
            setMercy 0
            undo = 0
            """);
    }

    private static void whyNot() {
        the.in("Promise 20:");
        the.holds("Returns 0 if it can", """
            begin 0
            whyNot 0 0..15 = 0
            write 0 0 99
            whyNot 0 0 = 0 // its own lock
            38 * write 0 0 1
            worker 0 1 = 39
            whyNot 0 0..15 = 0
            """);
        the.holds("1: it has no work; 2: its innermost work is spoiled; 3: another worker has locked the cell; 4: its log"
            + " has 40 entries or more.", """
            whyNot 0..2 0..15 = 1
            begin 0
            40 * write 0 0 1
            whyNot 0 0..15 = 4
            begin 0
            regret 0 1 1
            fail 0 = 1
            worker 0 1 = 41
            whyNot 0 0..15 = 4 // more than 40
            begin 0
            fail 0 = 2
            whyNot 0 0..15 = 2
            begin 1
            whyNot 1 0..1 = 3
            whyNot 1 2..15 = 0
            """);
        the.holds("otherwise the first of these that applies", """
            begin 1
            write 1 5 5
            whyNot 0 5 = 1 // 3 too
            begin 0
            40 * write 0 0 1
            whyNot 0 5 = 3 // 4 too
            whyNot 0 0 = 4
            setMercy 0
            begin 0
            fail 0
            whyNot 0 5 = 2 // 3 and 4 too
            whyNot 0 0 = 2 // 4 too
            """);
        the.holds("Throws IndexOutOfBoundsException if there is no such worker or cell", """
            whyNot -1,3,min,max 0 ! Index
            whyNot 0 -1,16,min,max ! Index
            """);
    }

    private static void failed() {
        the.in("Promise 21:");
        String calls = """
            begin 0
            write 0 1 99
            regret 0 1 1
            begin 0
            write 0 1 20
            regret 0 1 2
            begin 0
            regret 0 1 30
            begin 0
            write 0 1 98
            begin 0
            regret 0 1 3
            """;
        the.holds("n: 0 to 5", calls + """
            failed 0 1 0 = 98
            failed 0 1 1 = 1 // 98 + 3 as the remainder
            failed 0 1 2 = 20
            failed 0 1 3 = 50
            failed 0 1 4 = 1 // 99 + 2 as the remainder
            failed 0 1 5 = 1
            failed 0 1 -1,6,min,max ! Argument
            """);
        the.holds("Returns its value if fail(w) was called n times (fewer, if the worker has no work any more).", """
            failed 0 0..15 0..5 = 0
            begin 0
            write 0 1 10
            done 0
            failed 0 1 0..5 = 10 // it has no work
            begin 0
            write 0 1 20
            regret 0 1 5
            failed 0 1 0 = 20
            failed 0 1 1..5 = 15
            failed 1 1 0..5 = 20 // another worker fails
            setMercy 0
            begin 0
            fail 0 = 2
            failed 0 1 0 = 20
            failed 0 1 1..5 = 15 // a spoiled one fails too
            """);
        the.holds("Throws IndexOutOfBoundsException if there is no such worker or cell", """
            failed -1,3,min,max 0 0 ! Index
            failed 0 -1,16,min,max 0 ! Index
            failed 3 16 6 ! Index
            """);
        the.holds("Throws IllegalArgumentException if n is out of range", """
            failed 0 0 -1,6,min,max ! Argument
            begin 0
            failed 0 0 -1,6,min,max ! Argument
            """);
    }

    private static void changes() {
        the.in("Promise 22:");
        the.holds("Returns how many cells would have another value behind fail(w); NONE if it has no work.", """
            changes 0..2 = -1
            begin 0
            changes 0 = 0
            write 0 0 0
            changes 0 = 0 // the value that it had already
            write 0 0 5
            regret 0 0 5
            changes 0 = 0 // its regret gives it back
            write 0 0..15 7
            changes 0 = 16
            changes 1 = -1
            begin 0
            changes 0 = 0
            setMercy 0
            fail 0
            changes 0 = 16 // a spoiled one
            done 0 ! State
            fail 0
            changes 0 = -1
            """);
        the.holds("Throws IndexOutOfBoundsException if there is no such worker", "changes -1,3,min,max ! Index");
    }

    private static void lost() {
        the.in("Promise 23:");
        the.holds("Returns how many cells would have another value behind back(w, i), whether the work is spoiled or not.", """
            setMercy 0
            begin 0
            point 0
            write 0 0..15 7
            point 0
            write 0 0..1 0
            write 0 2 7 // the value that it had already
            regret 0 3 1
            point 0
            lost 0 0 = 14
            lost 0 1 = 2
            lost 0 2 = 0
            begin 0
            fail 0 = 2
            back 0 0 ! State
            lost 0 0 = 14
            lost 0 1 = 2
            lost 0 2 = 0
            """);
        the.holds("Throws IndexOutOfBoundsException if there is no such worker or point (also if the worker has no work)", """
            lost 0 0 ! Index
            lost -1,3,min,max 0 ! Index
            begin 0
            lost 0 0 ! Index
            point 0
            lost 0 0 = 0
            lost 0 -1,1,3,4,min,max ! Index
            lost 1 0 ! Index
            3 * point 0
            lost 0 3 = 0
            lost 0 4 ! Index
            begin 0
            lost 0 0 ! Index
            fail 0 = 1
            begin 0
            fail 0 = 2
            lost 0 3 = 0
            lost 0 4 ! Index // of a spoiled one
            fail 0 = 0
            lost 0 0 ! Index
            """);
    }

    private static void mercyLeft() {
        the.in("Promise 24:");
        the.holds("until its innermost work was spoiled (the last such time included)", """
            begin 0
            mercyLeft 0 = 2
            setMercy 0
            mercyLeft 0 = 1
            setMercy 3
            mercyLeft 0 = 4
            begin 0
            fail 0
            mercyLeft 0 = 3
            begin 0
            mercyLeft 0 = 4 // that one has forgiven none
            fail 0
            begin 0
            fail 0
            mercyLeft 0 = 1
            setMercy 1
            mercyLeft 0 = 1 // the mercy is less than what it has forgiven
            begin 0
            fail 0 = 2
            """);
        the.holds("NONE if it has no work, 5 works, or a spoiled one.", """
            mercyLeft 0..2 = -1
            4 * begin 0
            mercyLeft 0 = 2
            begin 0
            mercyLeft 0 = -1
            mercyLeft 1 = -1
            setMercy 0
            fail 0 = 2
            mercyLeft 0 = -1
            setMercy 3
            mercyLeft 0 = -1
            fail 0 = 1
            mercyLeft 0 = 3
            """);
        the.holds("Throws IndexOutOfBoundsException if there is no such worker", "mercyLeft -1,3,min,max ! Index");
    }

    private static void scriptNumbers() {
        the.in("Promise 25:");
        the.holds("A script has 1 to 3 commands", """
            runScript 1 10000 = -1
            runScript 2 1000010000 = -1
            runScript 3 100001000010000 = -1
            runScript -1,0,4,min,max 10000 ! Argument
            """);
        the.holds("n: number of commands, 1 to 3", """
            begin 0
            runScript 1 70001 = -1
            runScript 2 7000170001 = -1
            runScript 3 700017000170001 = -1
            runScript -1,0,4,min,max 70001 ! Argument
            """);
        the.holds("each is a group of five decimal digits d1 to d5", """
            begin 0
            runScript 1 70001 = -1
            runScript 1 7001,7000,701,1 = 0 // the first digit is 0
            runScript 2 7000107001 = 1
            runScript 2 700170001 = 0
            runScript 3 700010000070001 = 1
            """);
        the.holds("the first command is the highest group of the number (with zeros before it, if it has fewer digits).", """
            runScript 2 1000010001 = -1
            runScript 2 1000110000 = 0
            runScript 3 100001000110000 = -1
            runScript 3 100001000010004 = 2
            runScript 3 100001000410000 = 1
            runScript 3 100041000010000 = 0
            runScript 2 10000 = 0 // the first one is 00000
            runScript 3 1000010000 = 0
            runScript 1..3 0 = 0
            runScript 1..3 1 = 0
            """);
        the.holds("a number of at most 5 * n digits (0 or more)", """
            runScript 1 0,99999 = 0
            runScript 1 100000 ! Argument
            runScript 2 9999999999 = 0
            runScript 2 10000000000 ! Argument
            runScript 3 999999999999999 = 0
            runScript 3 1000000000000000 ! Argument
            runScript 1..3 max ! Argument
            runScript 1..3 min ! Argument
            runScript 1..3 -1 ! Argument
            runScript 1..3 -10000 ! Argument
            """);
        the.holds("Returns the index, from 0, of the first command that fails; NONE if all succeed.", """
            runScript 1 10001 = 0
            runScript 3 100011000110001 = 0
            runScript 3 100001000110001 = 2
            runScript 3 100001000210001 = 2
            runScript 3 100001000310001 = -1
            runScript 3 100001000911000 = 1
            """);
        the.holds("Throws IllegalArgumentException if n is out of range, or if script is negative or has more than 5 * n"
            + " digits", """
            runScript -1,0,4,min,max 0 ! Argument
            runScript 1..3 -1 ! Argument
            runScript 1 110000 ! Argument
            runScript 2 11000010000 ! Argument
            runScript 3 1100001000010000 ! Argument
            """);
        the.keeps("Runs a script on a copy of the state.", """
            setMercy 3
            begin 0
            point 0
            write 0 1 10
            regret 0 2 20
            begin 0
            point 0
            write 0 1 30
            regret 0 2 40
            save 0
            """, """
            runScript 2 1000220016 = -1
            runScript 2 1000021016 = 1
            runScript 3 100001000310003 = -1
            runScript 3 100021000210000 = -1
            runScript 3 100011000110000 = -1
            runScript 2 3000020019 = -1
            runScript 3 200194003930000 = -1
            runScript 3 200194003999999 = 2
            """);
    }

    private static void scriptActions() {
        the.holds("1 w 0 0 k: k 0: begin(w); 1: done(w); 2: fail(w); 3: point(w).", """
            begin 1
            write 1 1 9
            runScript 2 1000070001 = -1
            runScript 2 1100071002 = -1
            runScript 2 1100171000 = -1
            runScript 2 1100150019 = -1
            runScript 2 1100271000 = -1
            runScript 2 1100250010 = -1
            runScript 1 31000 = 0
            runScript 2 1100331000 = -1
            runScript 1 11004..11009 = 0
            """);
        the.holds("2 w c c v: write(w, cc, v).", """
            begin 2
            runScript 2 2200150001 = -1
            runScript 2 2200150000 = 1
            runScript 2 2200950009 = -1
            runScript 2 2215950159 = -1
            runScript 1 62000 = 0
            runScript 2 2200062000 = -1 // the value that it has already
            runScript 1 22160 = 0
            runScript 1 22990 = 0
            runScript 1 20000 = 0
            """);
        the.holds("3 w 0 0 i: back(w, i).", """
            begin 0
            4 * point 0
            runScript 1 30000 = -1
            runScript 1 30003 = -1
            runScript 1 30004..30009 = 0
            runScript 1 30010 = 0
            runScript 1 30100 = 0
            runScript 2 3000230003 = 1
            runScript 2 3000230002 = -1
            runScript 1 31000 = 0
            """);
        the.holds("4 w c c n: regret(w, cc, n).", """
            begin 0
            runScript 1 40001 = -1
            runScript 1 40159 = -1
            runScript 1 40000 = 0 // its number is 0
            runScript 1 40161 = 0
            runScript 1 41001 = 0
            runScript 3 400091000250009 = -1
            runScript 3 400091000150009 = 2
            5 * regret 0 1 1
            runScript 1 40001 = -1
            runScript 2 4000140001 = 1
            """);
        the.holds("The commands 1 to 4 fail if the method would throw an exception", """
            runScript 1 10001..10003 = 0
            runScript 1 20000 = 0
            runScript 1 30000 = 0
            runScript 1 40001 = 0
            begin 0
            begin 1
            write 1 7 7
            runScript 1 20070 = 0
            runScript 1 40071 = 0
            40 * write 0 0 1
            runScript 1 20000 = 0
            runScript 1 40001 = -1
            4 * begin 0
            runScript 1 10000 = 0
            4 * point 0
            runScript 1 10003 = 0
            setMercy 0
            fail 0 = 2
            runScript 1 10000,10001,10003 = 0
            runScript 1 10002 = -1
            runScript 1 20010 = 0
            runScript 1 40011 = 0
            """);
    }

    private static void scriptQuestions() {
        the.holds("5 0 c c v: succeeds if the cell cc has the value v.", """
            begin 0
            write 0 15 9
            write 0 1 10
            write 0 2 19
            runScript 1 50000 = -1
            runScript 1 50001 = 0
            runScript 1 50159 = -1
            runScript 1 50158 = 0
            runScript 1 50010..50019 = 0 // its value is 10
            runScript 1 50029 = 0
            runScript 1 50160 = 0
            runScript 1 50990 = 0
            runScript 1 51000 = 0
            runScript 1 59000 = 0
            """);
        the.holds("6 w c c 0: succeeds if the worker w has locked the cell cc.", """
            runScript 1 60000 = 0
            begin 2
            write 2 15 0
            runScript 1 62150 = -1
            runScript 1 60150 = 0
            runScript 1 61150 = 0
            runScript 1 62140 = 0
            runScript 1 62160 = 0
            runScript 1 62151 = 0
            runScript 1 63000 = 0
            runScript 1 69150 = 0
            """);
        the.holds("7 w 0 0 n: succeeds if it has just n works.", """
            runScript 1 72000 = -1
            runScript 1 72001..72009 = 0
            5 * begin 2
            runScript 1 72005 = -1
            runScript 1 72004 = 0
            runScript 1 72006 = 0
            runScript 1 72015 = 0
            runScript 1 72105 = 0
            runScript 1 73000 = 0
            """);
        the.holds("8 w 0 0 0: succeeds if its innermost work is spoiled.", """
            setMercy 0
            runScript 1 80000 = 0
            begin 0
            runScript 1 80000 = 0
            begin 0
            fail 0 = 2
            runScript 1 80000 = -1
            runScript 1 81000 = 0
            runScript 1 80001 = 0
            runScript 1 80010 = 0
            runScript 1 80100 = 0
            runScript 1 83000 = 0
            """);
        the.holds("9 w 0 x y: succeeds if its log has at most xy entries.", """
            runScript 1 90000 = -1
            begin 0
            write 0 1 1
            runScript 1 90000 = 0
            runScript 1 90001 = -1
            38 * write 0 1 1
            runScript 1 90038 = 0
            runScript 1 90039 = -1
            write 0 1 1
            begin 0
            6 * regret 0 1 1
            fail 0 = 1
            runScript 1 90040 = 0
            runScript 1 90045 = 0
            runScript 1 90046 = -1
            runScript 1 90099 = -1
            runScript 1 90100 = 0
            runScript 1 90146 = 0
            runScript 1 93099 = 0
            """);
    }

    private static void scriptGroups() {
        the.holds("commands with workers or cells that do not exist fail", """
            begin 0
            runScript 1 13000,19000 = 0
            runScript 1 23000,29000 = 0
            runScript 1 33000,39000 = 0
            runScript 1 43001,49001 = 0
            runScript 1 63000,69000 = 0
            runScript 1 73000,79000 = 0
            runScript 1 83000,89000 = 0
            runScript 1 93099,99099 = 0
            runScript 1 20160,20990 = 0
            runScript 1 40161,40991 = 0
            runScript 1 50160,50990 = 0
            runScript 1 60160,60990 = 0
            """);
        the.holds("and so does any other group (also one with another digit where a 0 is written, or another k).", """
            setMercy 0
            begin 0
            point 0
            begin 0
            fail 0 = 2
            begin 1
            point 1
            runScript 1 0,9,9999,1000 = 0
            runScript 1 10004..10009 = 0
            runScript 1 12010,12020,12090,12100,12900,12110 = 0
            runScript 1 31010,31090,31100,31900 = 0
            runScript 1 31000 = -1
            runScript 1 51000,52000,59000 = 0
            runScript 1 60001,60009 = 0
            runScript 1 71011,71091,71101,71901 = 0
            runScript 1 71001 = -1
            runScript 1 80001,80009,80010,80090,80100,80900 = 0
            runScript 1 80000 = -1
            runScript 1 90100,90199,90900,90999 = 0
            runScript 1 90000 = -1
            """);
        the.holds("cc and xy are decimal numbers.", """
            begin 0
            runScript 1 20109 = -1
            runScript 2 2010950109 = -1
            runScript 2 2010950019 = 1
            runScript 3 201092000190001 = 2
            runScript 3 201092000190002 = -1
            10 * write 0 1 1
            runScript 1 90009 = 0
            runScript 1 90010 = -1
            """);
    }

    private static void simulate() {
        the.in("Promise 26:");
        String none = "";
        for (int m : new int[] {1, 2, 98, 99}) {
            simulated("m: number of steps, 1 to 99", none, 7, m);
        }
        for (long seed : new long[] {Long.MIN_VALUE, Long.MIN_VALUE + 1, -1, 0, 1, Long.MAX_VALUE - 1, Long.MAX_VALUE}) {
            simulated("seed: any long", none, seed, 99);
        }
        for (long seed = 1L << 40; seed < (1L << 40) + 20; seed++) {
            simulated("(with long overflow)", none, seed, 99);
        }
        // Regrets with the least and the greatest number; one more or less of it would be an exception.
        for (long seed : new long[] {471, 608, 820, 919, 1182, 1472, 1815}) {
            simulated("1 + r / 1024 % 99", none, seed, 99);
        }
        // With logs that are nearly full, points and what goes back to them make room for more writes.
        String nearlyFull = "begin 0..2\n38 * write 0 0 1\n38 * write 1 1 1\n38 * write 2 2 1\n";
        for (long seed : new long[] {48, 111, 121, 229, 253, 260, 279, 392}) {
            simulated("7: point(w). 8: back(w, r / 64 % 4).", nearlyFull, seed, 99);
        }
        String full = """
            setMercy 3
            begin 0
            begin 0
            fail 0 = 1
            6 * regret 0 1 1
            4 * point 0
            38 * write 0 2 2
            begin 0
            begin 0
            begin 0
            begin 1
            write 1 3..15 3
            """;
        for (long seed = 0; seed < 40; seed++) {
            simulated("What would throw an exception is left out.", full, seed, 99);
        }
        the.keeps("Simulates m steps on a copy of the state.", full + "save 1\n", """
            simulate 1..9 1
            simulate 1..9 99
            simulate min,max 99
            """);
        the.holds("Throws IllegalArgumentException if m is out of range", """
            simulate 0,min,max -1,0,100,min,max ! Argument
            simulate 0 1
            simulate 0 99
            """);
        sometimesForgiven();
    }

    /** A simulation against the same steps as calls, with whole numbers that cannot overflow. */
    private static void simulated(String sentence, String calls, long seed, int m) {
        ForgivenWork x = Sentences.after(calls);
        ForgivenWork steps = Sentences.after(calls);
        int forgiven = steps.about(5);
        int writes = steps.about(8);
        BigInteger number = BigInteger.valueOf(seed);
        for (int step = 0; step < m; step++) {
            number = number.multiply(FACTOR).add(SUMMAND).mod(LONGS);
            simulatedStep(steps, number.shiftRight(33).intValueExact());
        }
        int due = 1000 * (steps.about(5) - forgiven) + steps.about(8) - writes;
        the.is(sentence, "simulate " + seed + " " + m, x.simulate(seed, m), due);
    }

    private static void simulatedStep(ForgivenWork x, int r) {
        int w = r / 16 % 3;
        try {
            switch (r % 16) {
                case 0, 1, 2 -> x.begin(w);
                case 3, 4 -> x.done(w);
                case 5, 6 -> x.fail(w);
                case 7 -> x.point(w);
                case 8 -> x.back(w, r / 64 % 4);
                case 9 -> x.regret(w, r / 64 % 16, 1 + r / 1024 % 99);
                default -> x.write(w, r / 64 % 16, r / 1024 % 100);
            }
        } catch (IllegalStateException | IndexOutOfBoundsException e) {
            // it is left out
        }
    }

    private static void sometimesForgiven() {
        int forgiven = 0;
        int nothing = 0;
        for (long seed = 0; seed < 100; seed++) {
            forgiven += new ForgivenWork().simulate(seed, 99) >= 1000 ? 1 : 0;
            nothing += new ForgivenWork().simulate(seed, 1) == 0 ? 1 : 0;
        }
        String sentence = "Returns 1000 * (the failures that are forgiven in them) + (what about(8) becomes more in them).";
        the.is(sentence, "the first step of 100 seeds, with no work", nothing, 100);
        the.is(sentence, "99 steps of 100 seeds, forgiven at least once in 20 of them", forgiven >= 20 ? 1 : 0, 1);
    }

    private static void save() {
        the.in("Promise 27:");
        the.holds("slot: 0 or 1", """
            save 0..1 = 0
            save -1,2,min,max ! Index
            restore 0..1 = 0
            """);
        the.holds("Returns the sum of all values.", """
            save 0 = 0
            begin 0
            write 0 0..15 99
            save 0 = 1584
            save 1 = 1584
            """);
        the.holds("Stores the present state in a save slot.", """
            begin 0
            write 0 1 1
            point 0
            save 0 = 1
            write 0 1 2
            save 1 = 2
            write 0 1 3
            save 1 = 3 // in the place of the former one
            write 0 1 4
            restore 0 = 1
            lost 0 0 = 0
            restore 1 = 3
            lost 0 0 = 1
            """);
        the.holds("Throws IndexOutOfBoundsException if there is no such save slot", "save -1,2,min,max ! Index");
    }

    private static void restore() {
        the.in("Promise 28:");
        the.holds("Replaces the state by the one in a save slot, and forgets all remembered states. The save slot keeps it.", """
            begin 0
            write 0 1 1
            regret 0 2 2
            point 0
            save 0 = 1
            14 * write 0 1 9
            done 0
            restore 0 = 1
            undo ! State
            worker 0 0 = 1
            worker 0 1 = 1
            work 0 0 1..2 = 1
            cell 1 1 = 0
            about 8 = 1
            write 0 1 5
            undo = 0
            fail 0 = 0
            cell 2 0 = 2
            restore 0 = 1
            undo ! State
            cell 2 0 = 0
            worker 0 0 = 1
            """);
        the.holds("Returns the sum of all values then.", """
            save 0 = 0
            begin 0
            write 0 0..15 99
            save 1 = 1584
            restore 0 = 0
            restore 1 = 1584
            """);
        the.holds("Throws IndexOutOfBoundsException if there is no such save slot", """
            restore -1,2,min,max ! Index // also with nothing saved
            save 0..1
            restore -1,2,min,max ! Index
            """);
        the.holds("Throws IllegalStateException if nothing has been saved in it since the last load", """
            restore 0..1 ! State
            save 1
            restore 0 ! State
            restore 1 = 0
            append 87
            load = 0
            restore 0..1 ! State
            save 0
            restore 0 = 0
            restore 1 ! State
            clearText
            load ! State
            restore 0 = 0 // that was no load
            """);
    }
}
