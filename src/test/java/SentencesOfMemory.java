/** Promises 1, 2 and 40 to 42, what is new, undone and saved, sentence by sentence. */
final class SentencesOfMemory {
    private static final int NONE = Check.NONE;
    private static final int REFUSED = Check.REFUSED;
    private static final int NOTHING = Check.NOTHING;

    private static void fill(BalconyCensus x) {
        x.plant(5, 6);
        x.plant(0, 2);
        x.bear(7, 0);
        x.hang(5, 1, 3);
        x.greet(5, 1);
        x.give(5, 6, 1);
        x.cat(2);
        x.cat(3);
        x.swap(2, 11);
        x.day();
        x.greet(1, 5);
    }

    static void newHouse() {
        Check.says("Promise 1", "Creates a house without plants, lines and cats.");
        BalconyCensus x = new BalconyCensus();
        for (int balcony = 0; balcony < 12; balcony++) {
            Check.due("plants of " + balcony, x.balconyOf(balcony, 0), 0);
            Check.due("cat on " + balcony, x.balconyOf(balcony, 2), NOTHING);
            Check.due("lines at " + balcony, x.balconyOf(balcony, 6), 0);
        }
        Check.due("plants", x.account(0), 0);
        Check.due("lines", x.account(2), 0);
        Check.due("cats", x.account(3), 0);
        Check.due("line 0", x.lineOf(0, 0), NONE);
        Check.due("cat 0", x.catOf(0, 0), NONE);
    }

    static void newHouseBesides() {
        Check.says("Promise 1", "Creates a house without plants, lines and cats.");
        BalconyCensus filled = new BalconyCensus();
        fill(filled);
        filled.save();
        BalconyCensus x = new BalconyCensus();
        for (int what = 0; what < 14; what++) {
            Check.due("account(" + what + ")", x.account(what), 0);
        }
        Check.due("undo()", x.undo(), NOTHING);
        Check.due("restore()", x.restore(), NOTHING);
        Check.due("fault()", x.fault(), NOTHING);
        Check.due("written(0)", x.written(0), NONE);
        Check.dueReasons(x, "a new object", NOTHING, NOTHING, NOTHING, NOTHING);
    }

    static void clearMakesNew() {
        Check.says("Promise 2", "Makes everything as in a new object,");
        BalconyCensus x = new BalconyCensus();
        fill(x);
        x.clear();
        Check.dueText("all behind clear", Check.shortSightOf(x), Check.shortSightOf(new BalconyCensus()));
        BalconyCensus y = new BalconyCensus();
        fill(x);
        fill(y);
        Check.dueText("all behind the same changes", Check.shortSightOf(x), Check.shortSightOf(y));
    }

    static void clearForgetsToday() {
        Check.says("Promise 2", "Makes everything as in a new object,");
        BalconyCensus x = new BalconyCensus();
        x.greet(0, 1);
        x.day();
        x.greet(0, 1);
        x.clear();
        for (int greeting = 0; greeting < 11 * 12; greeting++) {
            int one = greeting / 11;
            int other = (one + 1 + greeting % 11) % 12;
            Check.due("greet(" + one + ", " + other + ")", x.greet(one, other), 1);
        }
        x.cat(7);
        x.swap(7, 8);
        x.clear();
        x.cat(7);
        Check.due("swaps of a new cat", x.catOf(0, 2), 0);
    }

    static void clearButWhatStays() {
        Check.says("Promise 2", "except the input, the fault position, the reasons, the written line and what was saved.");
        BalconyCensus x = new BalconyCensus();
        fill(x);
        x.save();
        String saved = Check.shortSightOf(x);
        Check.readText(x, "catt");
        x.greet(9, 9);
        Check.type(x, "day;da");
        Check.due("write(1)", x.write(1), 7);
        x.clear();
        Check.due("characters", x.account(12), 6);
        Check.due("fault()", x.fault(), 3);
        Check.dueReasons(x, "clear", 2, 9, NOTHING, NOTHING);
        Check.dueText("line", Check.lineOf(x, 7), "0 6 2 0");
        x.append('y');
        Check.due("read() of the input that stayed", x.read(), 2);
        Check.due("days", x.account(5), 2);
        Check.due("restore()", x.restore(), 11);
        Check.dueText("all behind restore", Check.shortSightOf(x), saved);
    }

    static void clearCannotBeUndone() {
        Check.says("Promise 2", "Nothing can be undone then.");
        BalconyCensus x = new BalconyCensus();
        fill(x);
        x.clear();
        Check.due("undo()", x.undo(), NOTHING);
        Check.due("changes", x.account(13), 0);
        x.day();
        Check.due("changes behind a day", x.account(13), 1);
        Check.due("undo()", x.undo(), 0);
        Check.due("undo()", x.undo(), NOTHING);
        Check.due("plants", x.account(0), 0);
    }

    static void clearReturns() {
        Check.says("Promise 2", "Returns how many plants there were.");
        BalconyCensus x = new BalconyCensus();
        Check.due("clear() of a new object", x.clear(), 0);
        for (int balcony = 0; balcony < 12; balcony++) {
            x.plant(balcony, 9);
        }
        Check.due("clear() of the most", x.clear(), 108);
        Check.due("clear() once more", x.clear(), 0);
        x.plant(3, 4);
        x.day();
        Check.due("clear() behind a day", x.clear(), 5);
    }

    private static void change(BalconyCensus x, int kind) {
        switch (kind) {
            case 0: x.plant(5, 1); break;
            case 1: x.bear(7, 0); break;
            case 2: x.hang(5, 1, 1); break;
            case 3: x.greet(5, 1); break;
            case 4: x.give(5, 6, 1); break;
            case 5: x.cat(3); break;
            case 6: x.swap(2, 11); break;
            case 7: x.day(); break;
            default: Check.readText(x, "day;cat 0;greet 0 1");
        }
    }

    static void undoOfEach() {
        Check.says("Promise 40", "Undoes the latest change.");
        for (int kind = 0; kind < 9; kind++) {
            BalconyCensus x = new BalconyCensus();
            x.plant(5, 2);
            x.cat(2);
            x.hang(0, 1, 1);
            x.greet(0, 1);
            String before = Check.shortSightOf(x);
            change(x, kind);
            Check.due("change " + kind + " is seen", Check.shortSightOf(x).equals(before) ? 1 : 0, 0);
            Check.due("undo() of change " + kind, x.undo(), 4);
            Check.dueText("all behind undo of change " + kind, Check.shortSightOf(x), before);
            Check.due("greet(0, 1) still today", x.greet(0, 1), REFUSED);
            Check.due("greet(5, 1) not today", x.greet(5, 1), 1);
        }
    }

    static void undoOfLines() {
        Check.says("Promise 40", "Undoes the latest change.");
        BalconyCensus x = new BalconyCensus();
        x.hang(0, 1, 1);
        x.hang(2, 3, 2);
        x.hang(4, 5, 1);
        x.day();
        x.undo();
        x.writeLines();
        Check.dueText("lines behind undo", Check.lineOf(x, 17), "0-1:1 2-3:2 4-5:1");
        x.undo();
        x.hang(6, 7, 9);
        x.writeLines();
        Check.dueText("lines behind another one", Check.lineOf(x, 17), "0-1:1 2-3:2 6-7:9");
    }

    static void undoReturns() {
        Check.says("Promise 40", "Returns the number of changes that can still be undone");
        BalconyCensus x = new BalconyCensus();
        for (int day = 0; day < 3; day++) {
            x.day();
        }
        Check.due("undo()", x.undo(), 2);
        Check.due("undo()", x.undo(), 1);
        Check.due("undo()", x.undo(), 0);
        for (int day = 0; day < 9; day++) {
            x.day();
        }
        Check.due("undo() of nine", x.undo(), 7);
        Check.due("days", x.account(5), 8);
    }

    static void undoNothing() {
        Check.says("Promise 40", "NOTHING if there is none.");
        BalconyCensus x = new BalconyCensus();
        Check.due("undo() at first", x.undo(), NOTHING);
        x.plant(12, 1);
        x.greet(0, 0);
        x.read();
        Check.due("undo() behind errors", x.undo(), NOTHING);
        x.plant(0, 1);
        Check.due("undo()", x.undo(), 0);
        Check.due("undo() once more", x.undo(), NOTHING);
        Check.due("undo() once more", x.undo(), NOTHING);
        Check.due("plants", x.account(0), 0);
    }

    static void saveAll() {
        Check.says("Promise 41", "Saves all that changes can change,");
        BalconyCensus x = new BalconyCensus();
        fill(x);
        x.save();
        String saved = Check.shortSightOf(x);
        for (int kind = 0; kind < 9; kind++) {
            change(x, kind);
        }
        x.restore();
        Check.dueText("all behind restore", Check.shortSightOf(x), saved);
        Check.due("greet(1, 5) on the saved day", x.greet(1, 5), REFUSED);
        Check.due("greet(5, 1) on the saved day", x.greet(5, 1), 2);
    }

    static void saveIsNoChange() {
        Check.says("Promise 41", "Saves all that changes can change,");
        BalconyCensus x = new BalconyCensus();
        fill(x);
        String before = Check.shortSightOf(x);
        x.save();
        Check.dueText("all behind save", Check.shortSightOf(x), before);
        Check.due("changes", x.account(13), 8);
        Check.due("undo()", x.undo(), 7);
    }

    static void saveInPlace() {
        Check.says("Promise 41", "in place of what was saved before.");
        BalconyCensus x = new BalconyCensus();
        x.plant(0, 1);
        x.save();
        x.plant(0, 2);
        x.save();
        x.plant(0, 3);
        Check.due("restore()", x.restore(), 3);
        x.clear();
        x.save();
        x.plant(7, 7);
        Check.due("restore() of an empty house", x.restore(), 0);
        Check.due("plants of 7", x.balconyOf(7, 0), 0);
    }

    static void saveReturns() {
        Check.says("Promise 41", "Returns how many plants there are.");
        BalconyCensus x = new BalconyCensus();
        Check.due("save() of a new object", x.save(), 0);
        for (int balcony = 0; balcony < 12; balcony++) {
            x.plant(balcony, 9);
            Check.due("save()", x.save(), balcony * 9 + 9);
        }
    }

    static void restore() {
        Check.says("Promise 42", "Restores what was saved,");
        BalconyCensus x = new BalconyCensus();
        fill(x);
        x.save();
        String saved = Check.shortSightOf(x);
        x.day();
        x.cat(7);
        x.restore();
        Check.dueText("all behind restore", Check.shortSightOf(x), saved);
    }

    static void restoreStaysSaved() {
        Check.says("Promise 42", "which stays saved.");
        BalconyCensus x = new BalconyCensus();
        x.plant(2, 5);
        x.cat(2);
        x.hang(2, 3, 4);
        x.save();
        String saved = Check.shortSightOf(x);
        for (int turn = 0; turn < 2; turn++) {
            x.restore();
            x.day();
            x.swap(2, 3);
            x.plant(2, 1);
            x.greet(2, 3);
        }
        Check.due("restore() again", x.restore(), 5);
        Check.dueText("all behind restore again", Check.shortSightOf(x), saved);
        x.clear();
        Check.due("restore() behind clear", x.restore(), 5);
    }

    static void restoreCannotBeUndone() {
        Check.says("Promise 42", "Nothing can be undone then.");
        BalconyCensus x = new BalconyCensus();
        x.plant(2, 5);
        x.save();
        x.plant(2, 1);
        x.restore();
        Check.due("changes", x.account(13), 0);
        Check.due("undo()", x.undo(), NOTHING);
        Check.due("plants", x.account(0), 5);
        x.day();
        Check.due("undo() of a later change", x.undo(), 0);
        Check.due("plants", x.account(0), 5);
    }

    static void restoreReturns() {
        Check.says("Promise 42", "Returns how many plants there are");
        BalconyCensus x = new BalconyCensus();
        x.plant(2, 5);
        x.plant(11, 9);
        x.save();
        x.plant(4, 3);
        Check.due("restore()", x.restore(), 14);
        Check.due("restore() once more", x.restore(), 14);
    }

    static void restoreNothing() {
        Check.says("Promise 42", "NOTHING if nothing was saved.");
        BalconyCensus x = new BalconyCensus();
        Check.due("restore() at first", x.restore(), NOTHING);
        x.plant(2, 5);
        Check.due("restore() without save", x.restore(), NOTHING);
        Check.due("plants", x.account(0), 5);
        Check.due("changes", x.account(13), 1);
        x.clear();
        Check.due("restore() behind clear", x.restore(), NOTHING);
    }
}
