/** Promises 10 append, 11 clearBuffer, 12 firstError, 13 load. */
public final class TextTest {
    public static void main(String[] args) {
        appendFills();
        appendRefusesWrongInputs();
        clearBufferClears();
        firstErrorFinds();
        everyCharacterAtTheStart();
        loadMakesDies();
        loadRefusesTexts();
        bufferIsNotUndone();
        Check.end();
    }

    private static void appendFills() {
        EmbossPress p = new EmbossPress();
        for (int i = 0; i < 40; i++) {
            Check.due("append", p.append(33 + i), i + 1);
        }
        Check.dueIllegalState(p, "append to 40", () -> p.append(49));
        Check.dueIllegal(p, "append 32 to 40", () -> p.append(32));
        Check.due("append is not saved", p.count(13), 0);
        Check.due("clearBuffer", p.clearBuffer(), 40);
        Check.due("append the least", p.append(33), 1);
        Check.due("append the greatest", p.append(126), 2);
    }

    private static void appendRefusesWrongInputs() {
        EmbossPress p = new EmbossPress();
        p.append(49);
        for (int code : new int[] {32, 127, 0, -1, 65536 + 49, Integer.MAX_VALUE, Integer.MIN_VALUE}) {
            Check.dueIllegal(p, "append " + code, () -> p.append(code));
        }
        Check.due("still one", p.clearBuffer(), 1);
    }

    private static void clearBufferClears() {
        EmbossPress p = new EmbossPress();
        Check.due("clear an empty one", p.clearBuffer(), 0);
        Check.type(p, "12/x");
        Check.due("clear", p.clearBuffer(), 4);
        Check.due("cleared", p.clearBuffer(), 0);
        Check.due("cleared", p.firstError(), 0);
        Check.due("clearBuffer is not saved", p.count(13), 0);
        Check.due("append behind it", p.append(49), 1);
    }

    private static void firstErrorFinds() {
        String[] texts = {
            "", "1", ".", "12345", "123456", "1234567", "....." , "......", "/", "//", "1/", "1//",
            "1/2/3/4/5", "1/2/3/4/5/", "1/2/3/4/5/6", "12345/12345/12345/12345/12345",
            "12345/12345/12345/12345/123456", "12345/12345/12345/12345/12345/", "a", "1a", "1/a",
            "1-", "1:", "1,", "0", "9", "1/2/", "x1/2", "12345x", "1/2/3/4/5x/6", "1/./.", "./.x.",
        };
        int[] due = {
            0, 1, 1, 5, 5, 5, 5, 5, 0, 0, 2, 2, 9, 9, 9, 29, 29, 29, 0, 1, 2,
            1, 1, 1, 1, 1, 4, 0, 5, 9, 5, 3,
        };
        for (int i = 0; i < texts.length; i++) {
            EmbossPress p = new EmbossPress();
            Check.type(p, texts[i]);
            long before = p.digest();
            Check.due("firstError of " + texts[i], p.firstError(), due[i]);
            Check.due("firstError changes nothing", p.digest(), before);
        }
        EmbossPress full = new EmbossPress();
        Check.type(full, "1".repeat(40));
        Check.due("firstError of a full buffer", full.firstError(), 5);
    }

    private static void everyCharacterAtTheStart() {
        for (int code = 33; code <= 126; code++) {
            EmbossPress p = new EmbossPress();
            p.append(code);
            boolean sign = code == '.' || code >= '0' && code <= '9';
            Check.due("firstError of code " + code, p.firstError(), sign ? 1 : 0);
            p.clearBuffer();
            p.append('7');
            p.append(code);
            Check.due("firstError of 7 and code " + code, p.firstError(), sign || code == '/' ? 2 : 1);
        }
    }

    private static void loadMakesDies() {
        EmbossPress p = new EmbossPress();
        Check.due("load", Check.loadText(p, 1, "12345/67890/....1/9/.2.3"), 13);
        Check.dueOutcome("loaded", Check.dieText(p, 1, 0), "12345/67890/00001/90000/02030");
        Check.dueOutcome("other die", Check.dieText(p, 0, 0), "00000/00000/00000/00000/00000");
        Check.dueOutcome("other die", Check.dieText(p, 2, 0), "00000/00000/00000/00000/00000");
        Check.due("the buffer is cleared", p.clearBuffer(), 0);
        Check.due("rows that are missing", Check.loadText(p, 1, "3/.4"), 2);
        Check.dueOutcome("loaded", Check.dieText(p, 1, 0), "30000/04000/00000/00000/00000");
        Check.due("a die without depths", Check.loadText(p, 1, ".0/0"), 0);
        Check.due("load is saved", p.count(13), 3);
        p.undo();
        Check.dueOutcome("undone load", Check.dieText(p, 1, 0), "30000/04000/00000/00000/00000");
        Check.due("all 25", Check.loadText(p, 2, "11111/22222/33333/44444/55555"), 25);
        p.set(2, 1);
        Check.due("setting 2 does not bind load", Check.loadText(p, 0, "9"), 1);
    }

    private static void loadRefusesTexts() {
        EmbossPress p = new EmbossPress();
        Check.dueIllegal(p, "load of nothing", () -> p.load(0));
        Check.dueOutOfBounds(p, "load die 3 of nothing", () -> p.load(3));
        String[] texts = {"/", "1/", "1//2", "123456", "1/2/3/4/5/", "1/2/3/4/5/6", "a", "1!",
            "12345/12345/12345/12345/12345/", "1/2/3/4/", "1".repeat(40)};
        for (String text : texts) {
            Check.type(p, text);
            Check.dueIllegal(p, "load of " + text, () -> p.load(0));
            Check.dueOutOfBounds(p, "load die -1 of " + text, () -> p.load(-1));
            Check.due("the buffer stays", p.clearBuffer(), text.length());
        }
        Check.type(p, "1");
        Check.dueOutOfBounds(p, "load die 3", () -> p.load(3));
        Check.dueOutOfBounds(p, "load die -1", () -> p.load(-1));
        Check.due("nothing is saved", p.count(13), 0);
        Check.due("load at last", p.load(2), 1);
    }

    private static void bufferIsNotUndone() {
        EmbossPress p = new EmbossPress();
        p.keep(0);
        Check.loadText(p, 0, "5");
        Check.type(p, "12");
        p.undo();
        Check.due("undo leaves the buffer", p.append('3'), 3);
        p.goBack(0);
        Check.due("goBack leaves the buffer", p.append('4'), 4);
        Check.due("the text is whole", p.load(0), 4);
        Check.dueOutcome("loaded", Check.dieText(p, 0, 0), "12340/00000/00000/00000/00000");
        p.undo();
        Check.due("undone load leaves the buffer cleared", p.clearBuffer(), 0);
    }
}
