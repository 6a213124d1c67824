/** Promises 1, 2 and 40 to 42: a new object, clear, undo, save and restore. */
public final class MemoryTest {
    private static final int NOTHING = Check.NOTHING;

    public static void main(String[] args) {
        promise1New();
        promise2Clear();
        promise40Undo();
        promise40EachChange();
        promise40EightAlone();
        promise40ChangesBehindOtherCalls();
        promise41Save();
        promise42Restore();
        objectsAreApart();
        Check.end();
    }

    private static void fill(BalconyCensus x) {
        x.plant(5, 6);
        x.plant(0, 2);
        x.bear(7, 0);
        x.hang(5, 1, 3);
        x.greet(5, 1);
        x.give(5, 6, 1);
        x.cat(2);
        x.cat(3);
        x.swap(2, 11);
        x.day();
        x.greet(1, 5);
    }

    private static void promise1New() {
        BalconyCensus x = new BalconyCensus();
        Check.due("plants", x.account(0), 0);
        Check.due("lines", x.account(2), 0);
        Check.due("cats", x.account(3), 0);
        Check.due("undo()", x.undo(), NOTHING);
        Check.due("restore()", x.restore(), NOTHING);
        Check.due("fault()", x.fault(), NOTHING);
        Check.due("written(0)", x.written(0), Check.NONE);
        for (int balcony = 0; balcony < 12; balcony++) {
            Check.due("plants of " + balcony, x.balconyOf(balcony, 0), 0);
            Check.due("tolerance of " + balcony, x.balconyOf(balcony, 1), 3);
        }
        Check.due("NONE", BalconyCensus.NONE, -1);
        Check.due("BAD", BalconyCensus.BAD, -2);
        Check.due("REFUSED", BalconyCensus.REFUSED, -3);
        Check.due("NOTHING", BalconyCensus.NOTHING, -4);
    }

    private static void promise2Clear() {
        BalconyCensus x = new BalconyCensus();
        String fresh = Check.sightOf(x);
        Check.due("clear() of a new object", x.clear(), 0);
        fill(x);
        x.save();
        String saved = Check.sightOf(x);
        x.plant(4, 7);
        Check.readText(x, "x");
        x.greet(3, 3);
        Check.type(x, "cat");
        int length = x.write(1);
        int plants = x.account(0);
        Check.due("clear()", x.clear(), plants);
        Check.dueText("all behind clear", Check.sightOf(x), fresh);
        Check.due("undo() behind clear", x.undo(), NOTHING);
        Check.due("changes behind clear", x.account(13), 0);
        Check.due("input stays", x.account(12), 3);
        Check.due("fault stays", x.fault(), 0);
        Check.dueReasons(x, "reason stays", 2, 3, NOTHING, NOTHING);
        Check.due("line stays", Check.lineOf(x, length).length(), length);
        Check.due("greet(1, 5) on a new day", x.greet(1, 5), 1);
        Check.due("greet(5, 0) on a new day", x.greet(5, 0), 1);
        Check.due("cat(4) is the first one", x.cat(4), 0);
        Check.due("swaps of the first one", x.catOf(0, 2), 0);
        x.restore();
        Check.dueText("saved stays", Check.sightOf(x), saved);
    }

    private static void promise40Undo() {
        BalconyCensus x = new BalconyCensus();
        Check.due("undo() at first", x.undo(), NOTHING);
        x.plant(0, 5);
        x.plant(0, 9);
        x.bear(0, 5);
        x.append('c');
        x.greet(0, 0);
        Check.due("changes", x.account(13), 2);
        Check.due("undo()", x.undo(), 1);
        Check.due("tolerance", x.balconyOf(0, 1), 3);
        Check.due("plants", x.balconyOf(0, 0), 5);
        Check.due("input stays", x.account(12), 1);
        Check.dueReasons(x, "reason stays", 2, 0, NOTHING, NOTHING);
        Check.due("undo()", x.undo(), 0);
        Check.due("plants put", x.account(8), 0);
        Check.due("undo()", x.undo(), NOTHING);
        x.day();
        Check.due("a day without difference counts", x.account(13), 1);
        Check.due("undo()", x.undo(), 0);
        Check.due("days", x.account(5), 0);
    }

    private static void promise40EachChange() {
        BalconyCensus x = new BalconyCensus();
        fill(x);
        x.clear();
        String[] sights = new String[12];
        String[] texts = {"plant 5 6", "bear 7 0", "hang 5 1 1", "greet 5 1", "give 5 6 1", "cat 2", "swap 2 11", "day"};
        for (int number = 0; number < 8; number++) {
            sights[number] = Check.sightOf(x);
            Check.due("read of '" + texts[number] + "'", Check.readText(x, texts[number]), 1);
        }
        for (int number = 7; number >= 0; number--) {
            Check.due("undo() of '" + texts[number] + "'", x.undo(), number);
            Check.dueText("all behind undo of '" + texts[number] + "'", Check.sightOf(x), sights[number]);
        }
        x.greet(5, 1);
        x.undo();
        Check.due("greet behind undo", x.greet(5, 1), 1);
        x.day();
        x.undo();
        Check.due("greet behind the undo of the day", x.greet(5, 1), Check.REFUSED);
    }

    private static void promise40EightAlone() {
        BalconyCensus x = new BalconyCensus();
        for (int number = 0; number < 9; number++) {
            x.plant(number, 1);
            Check.due("changes", x.account(13), Math.min(8, number + 1));
        }
        x.plant(0, 9);
        Check.due("a refusal takes no change away", x.account(13), 8);
        for (int number = 7; number >= 0; number--) {
            Check.due("undo()", x.undo(), number);
            Check.due("plants", x.account(0), number + 1);
        }
        Check.due("undo()", x.undo(), NOTHING);
        Check.due("plants of 0", x.balconyOf(0, 0), 1);
        for (int number = 0; number < 21; number++) {
            x.day();
        }
        for (int number = 7; number >= 3; number--) {
            Check.due("undo()", x.undo(), number);
        }
        x.day();
        Check.due("changes", x.account(13), 4);
        Check.due("days", x.account(5), 17);
        Check.due("undo()", x.undo(), 3);
        Check.due("undo()", x.undo(), 2);
        Check.due("days", x.account(5), 15);
    }

    /** Looks that a change is made on what is, not on what was undone, tried or foretold ahead of it. */
    private static void promise40ChangesBehindOtherCalls() {
        String[] texts = {"plant 5 1", "bear 7 0", "hang 5 1 1", "greet 5 1", "give 5 6 1", "cat 3", "swap 2 11", "day"};
        for (int kind = 0; kind < 8; kind++) {
            BalconyCensus plain = new BalconyCensus();
            BalconyCensus x = new BalconyCensus();
            plain.plant(5, 2);
            plain.cat(2);
            x.plant(5, 2);
            x.cat(2);
            x.day();
            x.plant(4, 2);
            x.undo();
            x.undo();
            Check.readText(x, "day;plant 1 1;cat 2");
            x.wouldGrow(4);
            change(plain, kind);
            change(x, kind);
            Check.dueText("all behind '" + texts[kind] + "'", Check.sightOf(x), Check.sightOf(plain));
            Check.readText(plain, "bear 9 9");
            Check.readText(x, "bear 9 9");
            Check.dueText("all behind a text behind it", Check.sightOf(x), Check.sightOf(plain));
        }
    }

    private static void change(BalconyCensus x, int kind) {
        switch (kind) {
            case 0: x.plant(5, 1); break;
            case 1: x.bear(7, 0); break;
            case 2: x.hang(5, 1, 1); break;
            case 3: x.greet(5, 1); break;
            case 4: x.give(5, 6, 1); break;
            case 5: x.cat(3); break;
            case 6: x.swap(2, 11); break;
            default: x.day();
        }
    }

    private static void promise41Save() {
        BalconyCensus x = new BalconyCensus();
        Check.due("save() of a new object", x.save(), 0);
        fill(x);
        int plants = x.account(0);
        int changes = x.account(13);
        Check.due("save()", x.save(), plants);
        Check.due("changes behind save", x.account(13), changes);
        String saved = Check.sightOf(x);
        Check.due("undo() behind save", x.undo(), changes - 1);
        x.plant(9, 9);
        Check.due("restore()", x.restore(), plants);
        Check.dueText("all behind restore", Check.sightOf(x), saved);
    }

    private static void promise42Restore() {
        BalconyCensus x = new BalconyCensus();
        x.plant(0, 5);
        Check.due("restore() of nothing", x.restore(), NOTHING);
        Check.due("changes stay", x.account(13), 1);
        fill(x);
        String saved = Check.sightOf(x);
        x.save();
        x.day();
        x.greet(1, 5);
        Check.due("write(1)", x.write(1) > 0 ? 1 : 0, 1);
        Check.readText(x, "cow");
        Check.type(x, "day");
        x.restore();
        Check.dueText("all behind restore", Check.sightOf(x), saved);
        Check.due("undo() behind restore", x.undo(), NOTHING);
        Check.due("input stays", x.account(12), 3);
        Check.due("fault stays", x.fault(), 1);
        Check.due("greeted that day", x.greet(1, 5), Check.REFUSED);
        Check.dueReasons(x, "greeted that day", 7, 1, NOTHING, NOTHING);
        x.clear();
        x.plant(2, 1);
        Check.due("restore() again", x.restore() > 1 ? 1 : 0, 1);
        Check.dueText("all behind restore again", Check.sightOf(x), saved);
        x.restore();
        Check.dueReasons(x, "reasons stay", 7, 1, NOTHING, NOTHING);
    }

    private static void objectsAreApart() {
        BalconyCensus x = new BalconyCensus();
        BalconyCensus y = new BalconyCensus();
        String fresh = Check.sightOf(y);
        fill(x);
        x.save();
        Check.dueText("another object", Check.sightOf(y), fresh);
        Check.due("restore() of another object", y.restore(), NOTHING);
    }
}
