/** The boundaries of texts: promises 18 to 21, and their terms. */
public final class TextBoundsTest extends Bench {
    private static final String THIRTY_SEASONS = "c;c;c;c;c;c;c;c;c;c;c;c;c;c;c;c;c;c;c;c;c;c;c;c;c;c;c;c;c;c;";

    public static void main(String[] args) {
        characters();
        mostCharacters();
        clearText();
        faultWhat();
        noFault();
        forms();
        notOfTheForm();
        digits();
        semicolons();
        firstFault();
        whenThoseAheadAreDone();
        causes();
        causesOfSeveral();
        faultOfAFullText();
        faultInThePresentState();
        playAnswers();
        playOfNothing();
        playOfAFault();
        playKeepsTheText();
        playIsOneChange();
        checks.end();
    }

    private static void characters() {
        sentence("promise 18", "character: 32 to 126");
        Noted x = new Noted();
        due(x.type(32), 1);
        due(x.type(126), 2);
        due(x.type(33), 3);
        due(x.type(125), 4);
        sentence("promise 18", "INVALID_ARGUMENT if character is out of range");
        for (int c : new int[] {31, 127, 0, -1, 128, 255, 256 + 99, 65536 + 99, LEAST, MOST}) {
            due(x.type(c), INVALID);
        }
        due(x.count(12), 4);
    }

    private static void mostCharacters() {
        sentence("promise 18", "Returns the length of the text");
        Noted x = new Noted();
        for (int k = 1; k <= 60; k++) {
            due(x.type(k % 2 == 1 ? 'c' : ';'), k);
        }
        due(x.count(12), 60);
        sentence("promise 18", "LIMIT_REACHED if it has 60 characters");
        due(x.type('c'), LIMIT);
        due(x.type(' '), LIMIT);
        due(x.count(12), 60);
        sentence("promise 18", "INVALID_ARGUMENT is returned rather than LIMIT_REACHED");
        due(x.type(31), INVALID);
        due(x.type(127), INVALID);
        sentence("promise 18", "60 as things are: none behind clearText");
        due(x.clearText(), 60);
        due(x.type('c'), 1);
    }

    private static void clearText() {
        sentence("promise 19", "Empties the text.");
        Noted x = new Noted();
        type(x, "zz");
        x.clearText();
        due(x.count(12), 0);
        due(x.fault(0), NOT_FOUND);
        type(x, "m9;");
        due(x.play(), 1);
        due(x.memberOf(0, 0), 9);
        sentence("promise 19", "Returns the length it had: also 0, and 60");
        due(new Noted().clearText(), 0);
        due(x.clearText(), 3);
        due(x.clearText(), 0);
        type(x, THIRTY_SEASONS);
        due(x.clearText(), 60);
        due(x.clearText(), 0);
    }

    private static void faultIs(Noted x, String text, int at, int reason, int cause) {
        text(x, text);
        due("fault(0) of " + text, x.fault(0), at);
        due("fault(1) of " + text, x.fault(1), reason);
        due("fault(2) of " + text, x.fault(2), cause);
    }

    private static void noFaultIn(Noted x, String text, int commands) {
        faultIs(x, text, NOT_FOUND, NOT_FOUND, NOT_FOUND);
        due("play() of " + text, x.play(), commands);
    }

    private static void faultWhat() {
        sentence("promise 20", "what: 0: its position; 1: its reason; 2: its cause");
        Noted x = commons(1);
        faultIs(x, "c;m31;", 2, 2, INVALID);
        faultIs(x, "m3", 0, 1, NOT_FOUND);
        sentence("promise 20", "INVALID_ARGUMENT if what is out of range");
        for (int what : new int[] {-1, 3, LEAST, MOST}) {
            due(x.fault(what), INVALID);
        }
        sentence("promise 20", "INVALID_ARGUMENT is returned rather than NOT_FOUND");
        for (int what : new int[] {-1, 3, LEAST, MOST}) {
            due(new Noted().fault(what), INVALID);
        }
        sentence("promise 20", "NOT_FOUND for 2 if its reason is 1");
        text(x, "c;u0;");
        due(x.fault(2), NOT_FOUND);
        due(x.fault(1), 1);
        due(x.fault(0), 2);
    }

    private static void noFault() {
        sentence("promise 20", "NOT_FOUND if the text has no fault (also if it is empty)");
        Noted x = commons(1);
        for (int what = 0; what < 3; what++) {
            due(x.fault(what), NOT_FOUND);
            due(new Noted().fault(what), NOT_FOUND);
        }
        type(x, "m1;u0,20;c;p0,1;r1;");
        for (int what = 0; what < 3; what++) {
            due(x.fault(what), NOT_FOUND);
        }
    }

    private static void forms() {
        sentence("terms", "\"m\" a worth (a member is added)");
        Noted x = new Noted();
        noFaultIn(x, "m7;", 1);
        due(x.count(0), 1);
        due(x.memberOf(0, 0), 7);
        sentence("terms", "\"u\" a member \",\" a use");
        noFaultIn(x, "u0,19;", 1);
        due(x.memberOf(0, 1), 19);
        sentence("terms", "\"c\" (the season ends)");
        noFaultIn(x, "c;", 1);
        due(x.count(1), 1);
        due(x.memberOf(0, 3), 9);
        sentence("terms", "\"p\" a member \",\" coins (paid)");
        noFaultIn(x, "p0,4;", 1);
        due(x.memberOf(0, 4), 4);
        sentence("terms", "or \"r\" points (repaired)");
        noFaultIn(x, "r3;", 1);
        due(x.count(10), 3);
        due(x.count(5), 0);
        due(x.memberOf(0, 3), 10);
    }

    private static void notOfTheForm() {
        sentence("terms", "its reason is 1 if it is not of this form");
        String[] wrong = {" ", ";", "m;", "M1;", "C;", " c;", "c ;", "c1;", "c0;", "c,;", "m 1;", "m1 ;", "m-1;", "m+1;",
            "m1,2;", "m,1;", "u;", "u0;", "u0,;", "u,1;", "u,;", "u0,1,;", "u0 ,1;", "u0, 1;", "u0.1;", "u0;1;", "p0;",
            "p,;", "p,1;", "p0,;", "p0,1,2;", "r;", "r1,1;", "r-1;", "x;", "1;", "1m;", "mm1;", "m1m1;", "cc;", "d;",
            "b;", "s0,1;", "m/;", "m:;", "u0,/;", "u:,1;", "m1:", "mX;"};
        for (String text : wrong) {
            faultIs(commons(1, 1), text, 0, 1, NOT_FOUND);
            faultIs(commons(1, 1), "c;" + text + "c;", 2, 1, NOT_FOUND);
        }
        sentence("terms", "each character that may be typed, where a command begins");
        for (char c = 32; c <= 126; c++) {
            if (c != 'c') {
                faultIs(commons(1), "c;" + c + ";", 2, 1, NOT_FOUND);
            }
        }
        sentence("terms", "each character that may be typed, behind a digit");
        for (char c = 32; c <= 126; c++) {
            if (c < '0' || c > '9') {
                int at = c == ';' ? 3 : 0;
                faultIs(commons(1), "m1" + c + ";", at, 1, NOT_FOUND);
                faultIs(commons(1), "u0" + c + "1;", c == ',' ? NOT_FOUND : 0, c == ',' ? NOT_FOUND : 1, NOT_FOUND);
            }
        }
        sentence("terms", "each character that may be typed, where a digit is due");
        for (char c = 32; c <= 126; c++) {
            if (c < '0' || c > '9') {
                faultIs(commons(1), "m" + c + ";", 0, 1, NOT_FOUND);
                faultIs(commons(1), "u" + c + ",1;", 0, 1, NOT_FOUND);
                faultIs(commons(1), "u0," + c + ";", 0, 1, NOT_FOUND);
            }
        }
    }

    private static void digits() {
        sentence("terms", "numbers of one to three digits");
        Noted x = commons(1, 1);
        for (String text : new String[] {"m1000;", "m0001;", "r1000;", "r0001;", "u0000,1;", "u0,0001;", "p0000,1;",
            "p0,0001;", "m12345;", "u1000,1;"}) {
            faultIs(x, text, 0, 1, NOT_FOUND);
        }
        faultIs(x, "m100;", 0, 2, INVALID);
        faultIs(x, "m999;", 0, 2, INVALID);
        faultIs(x, "u999,0;", 0, 2, INVALID);
        faultIs(x, "u0,999;", 0, 2, INVALID);
        faultIs(x, "r999;", 0, 2, INVALID);
        faultIs(x, "r100;", 0, 2, NOT_POSSIBLE);
        faultIs(x, "p0,999;", 0, 2, NOT_POSSIBLE);
        faultIs(x, "p999,999;", 0, 2, INVALID);
        sentence("terms", "0 ahead allowed");
        Noted y = new Noted();
        noFaultIn(y, "m030;m00;m000;m05;m5;u001,020;u03,07;u000,00;", 8);
        members(y, 0, 30, 0, 0, 5, 5);
        members(y, 1, 0, 20, 0, 7, 0);
        noFaultIn(y, "u000,009;u4,010;", 2);
        members(y, 1, 9, 20, 0, 7, 10);
        faultIs(y, "r000;", 0, 2, INVALID);
        faultIs(y, "p000,000;", 0, 2, INVALID);
        sentence("terms", "a number as great as there may be");
        Noted debt = commonsOf(3);
        settings(debt, 1, 0, 0, 999);
        uses(debt, 20, 20, 20);
        debt.close();
        noFaultIn(debt, "p2,999;r100;", 2);
        due(debt.memberOf(2, 4), 999);
        due(debt.count(10), 100);
        due(debt.count(5), 699);
    }

    private static void semicolons() {
        sentence("terms", "each followed by \";\"; its \";\" included");
        Noted x = commons(1);
        for (String text : new String[] {"c", "m1", "m", "u", "u0", "u0,", "u0,1", "u0,12", "p", "p0", "p0,", "p0,1", "r",
            "r1", "r12", "r100"}) {
            faultIs(x, text, 0, 1, NOT_FOUND);
        }
        faultIs(x, "c,", 0, 1, NOT_FOUND);
        faultIs(x, "c:", 0, 1, NOT_FOUND);
        faultIs(x, "c;c", 2, 1, NOT_FOUND);
        faultIs(x, "c;;", 2, 1, NOT_FOUND);
        faultIs(x, "c;;c;", 2, 1, NOT_FOUND);
        faultIs(x, "m31", 0, 1, NOT_FOUND);
        faultIs(x, "u9,21", 0, 1, NOT_FOUND);
        sentence("terms", "what stood there before clearText is no part of it");
        text(x, "c;c;");
        text(x, "c");
        due(x.fault(1), 1);
        text(x, "r999");
        text(x, "r1");
        due(x.fault(1), 1);
        due(x.fault(0), 0);
        sentence("terms", "nor is what was read of a text with a fault");
        for (String wrong : new String[] {"m;", "u,1;", "u0,;", "r;", "p0,z", "m1000;", "c;c", "m31;"}) {
            for (String right : new String[] {"c;", "m7;", "u0,5;", ""}) {
                Noted y = commons(1);
                text(y, wrong);
                due(y.fault(0) >= 0 ? 1 : 0, 1);
                text(y, right);
                due(y.fault(0), NOT_FOUND);
                due(y.fault(1), NOT_FOUND);
                due(y.fault(2), NOT_FOUND);
                due(y.play(), right.isEmpty() ? 0 : 1);
            }
        }
    }

    private static void firstFault() {
        sentence("terms", "the position, from 0, of the first character of the first command that is not possible");
        Noted x = commons(1);
        faultIs(x, "z", 0, 1, NOT_FOUND);
        faultIs(x, "c;z", 2, 1, NOT_FOUND);
        faultIs(x, "u000,000;c;z", 11, 1, NOT_FOUND);
        faultIs(x, "m31;z", 0, 2, INVALID);
        faultIs(x, "z;m31;", 0, 1, NOT_FOUND);
        faultIs(x, "c;m31;c;m32;z", 2, 2, INVALID);
        faultIs(x, "c;z;m31;", 2, 1, NOT_FOUND);
        faultIs(x, "c;p0,1;r1;", 2, 2, NOT_POSSIBLE);
        faultIs(x, "c;r1;p0,1000;", 2, 2, NOT_POSSIBLE);
    }

    private static void whenThoseAheadAreDone() {
        sentence("terms", "when those ahead of it are done");
        Noted x = new Noted();
        faultIs(x, "u0,1;", 0, 2, INVALID);
        noFaultIn(x, "m1;u0,1;", 2);
        x.undo();
        faultIs(x, "c;m1;", 0, 2, NOT_POSSIBLE);
        faultIs(x, "m1;c;r1;", 5, 2, NOT_POSSIBLE);
        faultIs(x, "m1;u0,20;c;p0,11;", 11, 2, NOT_POSSIBLE);
        noFaultIn(x, "m1;u0,20;c;p0,10;", 4);
        x.undo();
        faultIs(x, "m1;u0,20;c;p0,10;p0,1;", 17, 2, NOT_POSSIBLE);
        faultIs(x, "m1;u0,20;c;r5;r1;", 14, 2, NOT_POSSIBLE);
        faultIs(x, "m1;u0,20;c;r6;", 11, 2, NOT_POSSIBLE);
        sentence("terms", "those ahead of it are not done for it");
        due(x.count(0), 0);
        due(x.count(1), 0);
        due(x.fault(0), 11);
    }

    private static void causes() {
        sentence("terms", "its cause is the error code that the call returns for it");
        Noted none = new Noted();
        faultIs(none, "c;", 0, 2, NOT_POSSIBLE);
        faultIs(none, "r1;", 0, 2, NOT_POSSIBLE);
        faultIs(none, "r0;", 0, 2, INVALID);
        faultIs(none, "r101;", 0, 2, INVALID);
        faultIs(none, "m31;", 0, 2, INVALID);
        faultIs(none, "u0,0;", 0, 2, INVALID);
        faultIs(none, "p0,1;", 0, 2, INVALID);
        faultIs(none, "m1;m1;m1;m1;m1;m1;m1;m1;m1;", 24, 2, LIMIT);
        faultIs(none, "m1;u0,21;", 3, 2, INVALID);
        faultIs(none, "m1;u1,0;", 3, 2, INVALID);
        faultIs(none, "m1;p0,0;", 3, 2, INVALID);
        faultIs(none, "m1;p0,1;", 3, 2, NOT_POSSIBLE);
        Noted out = atLevel(46, 999);
        faultIs(out, "u0,1;u1,1;", 5, 2, NOT_POSSIBLE);
        faultIs(out, "u0,1;u1,0;", 5, 2, NOT_POSSIBLE);
        Noted late = afterSeasons(998);
        faultIs(late, "c;c;", 2, 2, LIMIT);
        late.close();
        faultIs(late, "u0,20;c;", 6, 2, LIMIT);
    }

    private static void causesOfSeveral() {
        sentence("terms", "its cause, where several errors apply");
        faultIs(commonsOf(8), "m31;", 0, 2, INVALID);
        faultIs(commonsOf(8), "m30;", 0, 2, LIMIT);
        faultIs(atLevel(46, 999), "u1,21;", 0, 2, INVALID);
        faultIs(commons(1), "r101;", 0, 2, INVALID);
        faultIs(commons(1), "p1,1;", 0, 2, INVALID);
        sentence("terms", "its reason is 1 rather than 2");
        faultIs(new Noted(), "c", 0, 1, NOT_FOUND);
        faultIs(new Noted(), "m31", 0, 1, NOT_FOUND);
        faultIs(new Noted(), "u9,99,;", 0, 1, NOT_FOUND);
    }

    private static void faultOfAFullText() {
        sentence("terms", "a text of 60 characters: its last command has its \";\", or not");
        Noted x = commons(1);
        noFaultIn(x, THIRTY_SEASONS, 30);
        faultIs(x, "m1;" + THIRTY_SEASONS.substring(0, 56) + "c", 59, 1, NOT_FOUND);
        due(x.count(12), 60);
        faultIs(x, THIRTY_SEASONS.substring(0, 54) + "u0,020", 54, 1, NOT_FOUND);
        due(x.count(12), 60);
        due(x.type(';'), LIMIT);
        faultIs(x, THIRTY_SEASONS.substring(0, 58) + "r9", 58, 1, NOT_FOUND);
        faultIs(x, THIRTY_SEASONS.substring(0, 56) + "r99;", 56, 2, NOT_POSSIBLE);
        noFaultIn(x, THIRTY_SEASONS.substring(0, 54) + "u0,20;", 28);
        due(x.memberOf(0, 1), 20);
    }

    private static void faultInThePresentState() {
        sentence("terms", "not possible: as things are now");
        Noted x = new Noted();
        type(x, "u0,5;");
        due(x.fault(0), 0);
        due(x.fault(2), INVALID);
        x.member(5);
        due(x.fault(0), NOT_FOUND);
        x.undo();
        due(x.fault(2), INVALID);
        due(x.play(), NOT_POSSIBLE);
        x.member(5);
        due(x.play(), 1);
    }

    private static void playAnswers() {
        sentence("promise 21", "Does all commands of the text, and returns how many there are in it");
        Noted x = new Noted();
        noFaultIn(x, "m9;u0,20;c;p0,5;r1;", 5);
        counts(x, 0, 1, 1, 96, 0, 0, 2, 5, 0, 10, 0, 1, 1, 19);
        noFaultIn(x, "c;", 1);
        noFaultIn(x, THIRTY_SEASONS, 30);
        due(x.count(1), 32);
        noFaultIn(x, "m1;m1;m1;m1;m1;m1;m1;", 7);
        due(x.count(0), 8);
    }

    private static void playOfNothing() {
        sentence("promise 21", "They are one change, also if there are none.");
        Noted x = new Noted();
        due(x.play(), 0);
        due(x.count(11), 1);
        due(x.play(), 0);
        due(x.count(11), 2);
        due(x.undo(), 1);
        due(x.undo(), 0);
        due(x.undo(), NOT_POSSIBLE);
    }

    private static void playOfAFault() {
        sentence("promise 21", "NOT_POSSIBLE if it has a fault");
        String[] wrong = {"z", "c", "m31;", "m1;m1", "m1;c;r1;", "m1;u0,20;c;p0,10;p0,1;", "m1;;"};
        for (String text : wrong) {
            Noted x = new Noted();
            type(x, text);
            due("play() of " + text, x.play(), NOT_POSSIBLE);
            counts(x, 0, 0, 0, 100, 0, 0, 0, 0, 0, 0, 0, 0, 0, text.length());
        }
        sentence("promise 21", "NOT_POSSIBLE, whatever the cause of the fault is");
        Noted full = commonsOf(8);
        type(full, "m1;");
        due(full.play(), NOT_POSSIBLE);
        Noted late = afterSeasons(999);
        type(late, "c;");
        due(late.play(), NOT_POSSIBLE);
        due(late.count(1), 999);
    }

    private static void playKeepsTheText() {
        sentence("promise 21", "the text, which stays");
        Noted x = new Noted();
        type(x, "m9;");
        due(x.play(), 1);
        due(x.count(12), 3);
        due(x.play(), 1);
        due(x.count(0), 2);
        due(x.type('c'), 4);
        due(x.play(), NOT_POSSIBLE);
        due(x.count(12), 4);
        due(x.type(';'), 5);
        due(x.play(), 2);
        due(x.clearText(), 5);
    }

    private static void playIsOneChange() {
        sentence("promise 21", "They are one change");
        Noted x = commons(1);
        noFaultIn(x, "m1;m1;u0,3;u1,4;c;", 5);
        due(x.count(11), 2);
        due(x.undo(), 1);
        due(x.count(0), 1);
        due(x.count(1), 0);
        due(x.memberOf(0, 5), 0);
        sentence("promise 21", "one change, of as many commands as there can be");
        noFaultIn(x, THIRTY_SEASONS, 30);
        due(x.count(11), 2);
        due(x.undo(), 1);
        due(x.count(1), 0);
    }
}
