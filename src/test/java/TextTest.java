/** Promises 12 to 15: the buffer, its first syntax error, and orders that are obeyed. */
public final class TextTest {
    public static void main(String[] args) {
        append();
        clearBuffer();
        firstError();
        everyCharacterAtEveryPlace();
        obey();
        obeyStops();
        obeyIncomplete();
        obeyLongText();
        Check.end("TextTest");
    }

    private static void append() {
        DroopBoard x = new DroopBoard();
        Check.due("12: append(33)", x.append(33), 1);
        Check.due("12: append(126)", x.append(126), 2);
        Check.due("12: not undoable", x.count(11), 0);
        Check.dueNoArgument(x, "12: append(32)", () -> x.append(32));
        Check.dueNoArgument(x, "12: append(127)", () -> x.append(127));
        Check.dueNoArgument(x, "12: append(-1)", () -> x.append(-1));
        for (int length = 3; length <= 60; length++) {
            Check.due("12: append('a')", x.append('a'), length);
        }
        Check.dueNoState(x, "12: append('a') to 60", () -> x.append('a'));
        Check.dueNoArgument(x, "12: append(32) to 60", () -> x.append(32));
    }

    private static void clearBuffer() {
        DroopBoard x = new DroopBoard();
        Check.due("13: clearBuffer()", x.clearBuffer(), 0);
        long empty = x.digest();
        Check.type(x, "r0;c");
        Check.due("13: clearBuffer()", x.clearBuffer(), 4);
        Check.due("13: clearBuffer()", x.clearBuffer(), 0);
        Check.due("13: digest()", x.digest(), empty);
        Check.due("13: not undoable", x.count(11), 0);
    }

    private static void firstError() {
        DroopBoard x = new DroopBoard();
        String[] right = {"", "s", "s2=5300", "s0=4700;", "r0;h1;c2;o0", "f3+;f0-", "t9", "t99;t10;s1=5"};
        for (String text : right) {
            Check.type(x, text);
            Check.due("14: firstError() of " + text, x.firstError(), text.length());
        }
        String[] wrong = {"?", "s?", "s3?", "s0?", "s0=46?", "s0=54?", "s0=531?", "s0=5301?", "s0=6?",
            "r3?", "h0;;?", "c0c?", "f4?", "f0=?", "t0?", "t100?", "t1;;?", ";?", "s0=47000?", "s0=04?", "t01?"};
        int[] due = {0, 1, 1, 2, 4, 4, 5, 6, 3,
            1, 3, 2, 1, 2, 1, 3, 3, 0, 7, 3, 1};
        for (int i = 0; i < wrong.length; i++) {
            Check.type(x, wrong[i]);
            Check.due("14: firstError() of " + wrong[i], x.firstError(), due[i]);
        }
    }

    /** Behind each beginning, exactly the named characters are no syntax error. */
    private static void everyCharacterAtEveryPlace() {
        String[] beginnings = {"", "s", "s1", "s1=", "s1=4", "s1=47", "s1=470", "s1=4700", "s1=5", "s1=52",
            "s1=53", "s1=530", "s1=5300", "r", "h", "c", "o", "o2", "f", "f2", "f2+", "t", "t1", "t10", "t1;"};
        String[] allowed = {"srhcoft", "012", "=", "45", "789", "0123456789", "0123456789", ";", "0123",
            "0123456789", "0", "0", ";", "012", "012", "012", "012", ";", "0123", "+-", ";", "123456789",
            "0123456789;", ";", "srhcoft"};
        for (int i = 0; i < beginnings.length; i++) {
            for (char code = 33; code <= 126; code++) {
                DroopBoard x = new DroopBoard();
                Check.type(x, beginnings[i] + code);
                int length = beginnings[i].length();
                int due = allowed[i].indexOf(code) >= 0 ? length + 1 : length;
                Check.due("14: firstError() of " + beginnings[i] + code, x.firstError(), due);
            }
        }
    }

    private static void obey() {
        DroopBoard x = new DroopBoard();
        x.load(1, 90);
        x.load(3, 10);
        Check.type(x, "r0;s0=5100;c0;f3-;t12");
        Check.due("15: obey()", x.obey(), 5);
        Check.due("15: the speed", x.diesel(0, 2), 5100);
        Check.due("15: closed", x.diesel(0, 4), 1);
        Check.due("15: switched off", x.line(3, 1), 0);
        Check.due("15: ticks", x.count(0), 12);
        Check.due("15: energy", x.count(10), 1080);
        Check.due("15: the buffer is cleared", x.clearBuffer(), 0);
        Check.due("15: one saved state more", x.count(11), 3);
        Check.type(x, "f3+;f1+;o0;h0");
        Check.due("15: obey()", x.obey(), 4);
        Check.due("15: switched on", x.line(3, 1), 1);
        Check.due("15: it stands", x.diesel(0, 3), 0);
        Check.due("15: undo() takes back all of one obey()", x.undo(), 3);
        Check.due("15: closed again", x.diesel(0, 4), 1);
        Check.due("15: off again", x.line(3, 1), 0);
        x.undo();
        Check.due("15: before the first one", x.diesel(0, 3), 0);
        Check.due("15: ticks before the first one", x.count(0), 0);
        Check.due("15: the buffer stays cleared", x.clearBuffer(), 0);
        Check.type(x, "s2=5300;s1=4799");
        Check.due("15: obey()", x.obey(), 2);
        Check.due("15: the speed of set 2", x.diesel(2, 2), 5300);
        Check.due("15: the speed of set 1", x.diesel(1, 2), 4799);
        Check.type(x, "t7");
        Check.due("15: obey()", x.obey(), 1);
        Check.due("15: ticks", x.count(0), 7);
    }

    private static void obeyStops() {
        String[] texts = {"r0;r0;t1", "h0;t1", "c0;t1", "o0;t1", "r0;c0;h0;t1", "r0;c0;r0;t1", "r0;c0;c0;t1",
            "r0;c0;r1;s1=5011;c1;t1"};
        int[] done = {1, 0, 0, 0, 2, 2, 2, 4};
        for (int i = 0; i < texts.length; i++) {
            DroopBoard x = new DroopBoard();
            Check.type(x, texts[i]);
            Check.due("15: obey() of " + texts[i], x.obey(), done[i]);
            Check.due("15: no tick passed", x.count(0), 0);
            Check.due("15: the buffer is cleared", x.clearBuffer(), 0);
            Check.due("15: one saved state", x.count(11), 1);
            x.undo();
            Check.due("15: no set runs", x.count(6), 0);
        }
    }

    private static void obeyIncomplete() {
        String[] texts = {"", "r", "r0;", "s0", "s0=", "s0=4", "s0=500", "f1", "t", "r3", "t0", "r0;x", "r0t1", ";"};
        for (String text : texts) {
            DroopBoard x = new DroopBoard();
            x.run(1);
            Check.type(x, text);
            Check.dueNoArgument(x, "15: obey() of " + text, () -> x.obey());
            Check.due("15: the buffer stays", x.clearBuffer(), text.length());
        }
    }

    private static void obeyLongText() {
        DroopBoard x = new DroopBoard();
        Check.type(x, "t99;t99;t99;t99;t99;t99;t99;t99;t99;t99;t99;t99;t99;t99;t99");
        Check.due("15: obey() of 59 characters", x.obey(), 15);
        Check.due("15: ticks", x.count(0), 1485);
        Check.type(x, "r0;r1;t99;t99;t99;t99;t99;t99;t99;t99;t99;t99;t99;t99;t99;t9");
        Check.due("15: firstError() of 60 characters", x.firstError(), 60);
        Check.due("15: obey() of 60 characters", x.obey(), 16);
        Check.due("15: ticks", x.count(0), 1485 + 1296);
    }
}
