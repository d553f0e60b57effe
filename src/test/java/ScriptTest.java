/** Promise 52: running scripts, and the parse errors of scripts. */
public final class ScriptTest {
    public static void main(String[] args) {
        allCommands();
        stopsAtTheFirstRefusal();
        everyRefusalStops();
        oneChange();
        wrongLengths();
        errors();
        failedScriptKeeps();
        twentyCommands();
        Check.finish("ScriptTest");
    }

    private static void allCommands() {
        PastryBench bench = new PastryBench();
        Check.same("nine commands", Check.script(bench, "dust 0;fold 0 2;cut 0;seal 2;roll 1 2;cool 1;wait 3;takeout 1;stack 0 2;"), 9);
        PastryBench same = new PastryBench();
        same.dust(0);
        same.fold(0, 2);
        same.cut(0);
        same.seal(2);
        same.roll(1, 2);
        same.cool(1);
        same.passHours(3);
        same.takeOut(1);
        same.stack(0, 2);
        Check.same("the same bench", Check.toldBench(bench), Check.toldBench(same));
        Check.same("no command", Check.script(new PastryBench(), " \n "), 0);
        Check.same("no separators", Check.script(new PastryBench(), "dust0;fold0 2;"), 2);
    }

    private static void stopsAtTheFirstRefusal() {
        PastryBench bench = new PastryBench();
        Check.same("the second is refused", Check.script(bench, "dust 0;dust 0;dust 1;"), 1);
        Check.same("the third is not executed", bench.flour() + Check.flags(bench, 1), "4");
        Check.error("a refusal is no parse error", bench, 0, -1);
        Check.same("the first is refused", Check.script(bench, "takeout 1;dust 1;"), 0);
        Check.same("still a change", bench.undoableCount(), 2);
        Check.same("undo it", bench.undo(), 1);
        Check.same("the first script still stands", Check.flags(bench, 0), "dusted ");
    }

    private static void refused(String command) {
        PastryBench bench = Check.benchOf("bench 1 9 1;sheet 12 dough 400 butter 400 dough 400;sheet 40 butter 4;sheet 1 dough 1;");
        Check.script(bench, "cool 2;dust 0;seal 0;");
        String before = Check.toldBench(bench);
        Check.same(command, Check.script(bench, command + ";seal 1;"), 0);
        Check.same(command + " changes nothing", Check.toldBench(bench), before);
        Check.error(command, bench, 0, -1);
    }

    private static void everyRefusalStops() {
        refused("fold 3 2");
        refused("fold 0 4");
        refused("fold 2 2");
        refused("roll 3 2");
        refused("roll 1 2");
        refused("roll 2 2");
        refused("dust 3");
        refused("dust 0");
        refused("dust 1");
        refused("seal 5");
        refused("seal 0");
        refused("seal 2");
        refused("cool 4");
        refused("cool 2");
        refused("takeout 3");
        refused("takeout 0");
        refused("cut 3");
        refused("cut 2");
        refused("stack 0 3");
        refused("stack 3 3");
        refused("stack 3 0");
        refused("stack 1 1");
        refused("stack 1 2");
        PastryBench old = new PastryBench();
        for (int i = 0; i < 416; i++) {
            old.passHours(24);
        }
        Check.same("too many hours", Check.script(old, "wait 15;wait 1;"), 1);
    }

    private static void oneChange() {
        PastryBench bench = new PastryBench();
        String before = Check.toldBench(bench);
        Check.script(bench, "dust 0;fold 0 2;cut 0;");
        Check.same("one change", bench.undoableCount(), 1);
        bench.undo();
        Check.same("undone as one", Check.toldBench(bench), before);
        Check.same("empty script", bench.runScript(0), 0);
        Check.same("it is a change too", bench.undoableCount(), 1);
    }

    private static void wrongLengths() {
        PastryBench bench = new PastryBench();
        Check.type(bench, "dust 0;");
        Check.badArgument(bench, "negative", () -> bench.runScript(-1));
        Check.badArgument(bench, "most negative", () -> bench.runScript(Integer.MIN_VALUE));
        Check.badArgument(bench, "too long", () -> bench.runScript(21));
        Check.badArgument(bench, "longest", () -> bench.runScript(Integer.MAX_VALUE));
        Check.same("the buffer is not emptied", bench.runScript(20), 1);
        Check.badArgument(bench, "the buffer is emptied", () -> bench.runScript(1));
        Check.type(bench, "dust 1;dust 0");
        Check.same("only the first bytes count", bench.runScript(7), 1);
        Check.badArgument(bench, "the rest is emptied too", () -> bench.runScript(1));
    }

    private static void fails(String text, int code, int offset) {
        PastryBench bench = new PastryBench();
        String before = Check.toldBench(bench);
        Check.same(text, Check.script(bench, text), -1);
        Check.error(text, bench, code, offset);
        Check.same(text + ": nothing executed", Check.toldBench(bench), before);
        Check.same(text + ": no change", bench.undoableCount(), 0);
    }

    private static void errors() {
        fails("dust 0;dust", 1, 11);
        fails("dust 0", 1, 6);
        fails("dust 0 ", 1, 7);
        fails("dust 0;;", 1, 7);
        fails("dust 0 0;", 1, 7);
        fails("dust fold", 1, 5);
        fails("dusts 0;", 1, 0);
        fails("dus 0;", 1, 0);
        fails("takeOut 0;", 1, 0);
        fails("take out 0;", 1, 0);
        fails("Dust 0;", 1, 0);
        fails("0 dust;", 1, 0);
        fails("bench 1 5 0;", 1, 0);
        fails("addbutter 0 4;", 1, 0);
        fails("fold 0;", 1, 6);
        fails("fold 0 2", 1, 8);
        fails("fold 0 2 2;", 1, 9);
        fails("fold 0 -2;", 1, 7);
        fails("stack 0;", 1, 7);
        fails("wait 3 3;", 1, 7);
        fails("wait;", 1, 4);
        fails("dust 6;", 2, 5);
        fails("seal 00006;", 2, 5);
        fails("cool 6;", 2, 5);
        fails("takeout 6;", 2, 8);
        fails("cut 6;", 2, 4);
        fails("fold 6 9;", 2, 5);
        fails("fold 5 1;", 2, 7);
        fails("fold 5 5;", 2, 7);
        fails("roll 6 2;", 2, 5);
        fails("roll 5 1;", 2, 7);
        fails("roll 5 5;", 2, 7);
        fails("wait 0;", 2, 5);
        fails("wait 25;", 2, 5);
        fails("wait 4294967297;", 2, 5);
        fails("stack 6 0;", 2, 6);
        fails("stack 0 6;", 2, 8);
        Check.same("the ranges' ends", Check.script(new PastryBench(), "wait 1;wait 24;fold 0 2;fold 0 3;roll 0 4;seal 5;"), 5);
        rangeEnds();
        Check.same("equal sheets are no parse error", Check.script(new PastryBench(), "stack 0 0;"), 0);
    }

    private static void rangeEnds() {
        String six = "bench 9 9 9;sheet 1 dough 1;sheet 1 dough 1;sheet 1 dough 1;sheet 1 dough 1;sheet 1 dough 1;sheet 1 dough 1;";
        String[] lowest = {"fold 0 2", "roll 0 2", "dust 0", "seal 0", "cool 0", "wait 1", "stack 0 1", "stack 1 0"};
        String[] highest = {"fold 5 4", "roll 5 4", "dust 5", "seal 5", "cool 5", "wait 24", "stack 5 4", "stack 4 5"};
        for (int i = 0; i < lowest.length; i++) {
            Check.same(lowest[i], Check.script(Check.benchOf(six), lowest[i] + ";"), 1);
            Check.same(highest[i], Check.script(Check.benchOf(six), highest[i] + ";"), 1);
        }
        Check.same("take out the first", Check.script(Check.benchOf(six), "cool 0;takeout 0;"), 2);
        Check.same("take out the last", Check.script(Check.benchOf(six), "cool 5;takeout 5;"), 2);
        Check.same("cut the first and the last", Check.script(Check.benchOf(six), "stack 0 1;cut 0;stack 0 1;cut 4;"), 4);
        Check.same("cut 5 can be read", Check.script(Check.benchOf(six), "cut 5;"), 0);
    }

    private static void failedScriptKeeps() {
        PastryBench bench = new PastryBench();
        bench.dust(0);
        String before = Check.toldBench(bench);
        Check.same("a late error", Check.script(bench, "dust 1;fold 0 2;roll 0 9;"), -1);
        Check.same("nothing is executed", Check.toldBench(bench), before);
        Check.same("no change", bench.undoableCount(), 1);
        Check.badArgument(bench, "the buffer is emptied", () -> bench.runScript(1));
    }

    private static void twentyCommands() {
        StringBuilder twenty = new StringBuilder();
        for (int i = 1; i <= 20; i++) {
            twenty.append("wait ").append(i).append(";");
        }
        PastryBench bench = new PastryBench();
        Check.same("twenty", Check.script(bench, twenty.toString()), 20);
        Check.same("210 hours", bench.hoursPassed(), 210);
        fails(twenty + "wait 1;", 3, twenty.length());
        fails(twenty + " stack", 3, twenty.length() + 1);
        String[] commands = {"fold", "roll", "dust", "seal", "cool", "takeout", "wait", "cut", "stack"};
        for (String command : commands) {
            fails(twenty + command, 3, twenty.length());
        }
        fails(twenty + " takeout 9;", 3, twenty.length() + 1);
        fails(twenty + "waits", 1, twenty.length());
        fails(twenty + "1", 1, twenty.length());
        fails(twenty + ";", 1, twenty.length());
        Check.same("twenty and spaces", Check.script(new PastryBench(), twenty + "  \n"), 20);
    }
}
