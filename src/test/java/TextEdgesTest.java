/** The edges of TEXTS: the tape, TOKENS, the numbers of law, way and person, room, FAULTS, the end. */
public final class TextEdgesTest {
    private static final Checks c = new Checks("TextEdgesTest");
    private static final String[] SORTS = {"captain", "pilot", "monk", "clerk", "boy"};
    private static final String WAYS = "law 2 0;" + "way 0 1 1 1;".repeat(8);
    private static final String PEOPLE = "law 2 0;" + "person boy 0 0;".repeat(4);

    public static void main(String[] args) {
        tapeOf400();
        bytesOfWord();
        everyByteAhead();
        everyByteBehind();
        everyByteBetween();
        blanks();
        names();
        figures();
        lawNumbers();
        wayNumbers();
        personNumbers();
        sorts();
        room();
        theEnd();
        everyPrefix();
        theFirstToken();
        theLeastFault();
        inPlaceOfTheOneBefore();
        faultLeavesAll();
        latestFault();
        c.end();
    }

    private static void reads(String text, int people) {
        YoungerBack x = new YoungerBack();
        c.due("league() of '" + text + "'", Checks.read(x, text), people);
        c.due("fault() of '" + text + "'", x.fault(), 0);
        c.due("the tape behind '" + text + "'", x.count(6), 0);
        c.due("people of '" + text + "'", x.count(1), people);
    }

    private static void faulty(String text, int place, int fault) {
        YoungerBack x = new YoungerBack();
        c.due("league() of '" + text + "'", Checks.read(x, text), -1000100 - place);
        c.due("fault() of '" + text + "'", x.fault(), fault);
        c.due("the tape behind '" + text + "'", x.count(6), 0);
        c.due("no LEAGUE by '" + text + "'", x.eldest(0), Checks.STATE);
    }

    private static void tapeOf400() {
        c.says("THE TAPE has at most 400 bytes");
        reads(" ".repeat(392) + "law 1 0;", 0);
        reads("law 1 0;" + "\n".repeat(392), 0);
        reads("law 1 " + " ".repeat(392) + "0;", 0);
        faulty("law 1 0" + " ".repeat(393), 400, 1);
        faulty(" ".repeat(393) + "law 1 0", 400, 1);
        faulty("law 1 0;" + " ".repeat(391) + "x", 399, 1);
        faulty(" ".repeat(400), 400, 1);
        faulty("a".repeat(400), 0, 1);
        faulty("0".repeat(400), 0, 1);
        faulty("law 1 0;" + ";".repeat(392), 8, 1);
        faulty("law 1 " + "0".repeat(394), 6, 1);
        c.says("The tape, empty then, is read: how many PEOPLE there are.");
        YoungerBack x = new YoungerBack();
        Checks.feed(x, " ".repeat(392) + "law 1 0;");
        c.due("401", x.feed(59L, 1), Checks.FULL);
        c.due("read", x.league(), 0);
        c.due("empty then", x.count(6), 0);
        c.due("400 again", Checks.feed(x, "law 1 0;" + " ".repeat(392)), 400);
        c.due("401", x.feed(32L, 1), Checks.FULL);
        c.due("what was refused did not come", x.league(), 0);
        c.due("empty of a FAULT, too", Checks.read(x, "law 1 0;x"), -1000108);
        c.due("empty then", x.count(6), 0);
        c.due("of nothing", x.league(), -1000100);
    }

    private static void bytesOfWord() {
        c.says("The lowest n bytes of w (1 to 8), the highest of them first, come behind the tape: how many it has.");
        byte[] word = "law 5 9;".getBytes(java.nio.charset.StandardCharsets.ISO_8859_1);
        for (int n = 1; n <= 8; n++) {
            YoungerBack x = new YoungerBack();
            Checks.feed(x, "law 5 9;".substring(0, 8 - n));
            // what is above the lowest n bytes must not come
            long w = n == 8 ? 0L : 0x7a7a7a7a7a7a7a7aL << (8 * n);
            for (int k = 0; k < n; k++) {
                w |= (word[8 - n + k] & 255L) << (8 * (n - 1 - k));
            }
            c.due("the last " + n, x.feed(w, n), 8);
            c.due("reads", x.league(), 0);
            c.due("harbours", x.count(3), 5);
            c.due("rate", x.count(5), 9);
        }
        YoungerBack x = new YoungerBack();
        Checks.feed(x, "law 5 9;");
        c.due("with the sign", x.feed(0xff20202020202020L, 8), 16);
        c.due("byte 255 is no TOKEN", x.league(), -1000108);
    }

    private static void everyByteAhead() {
        c.says("bytes 32 and 10 ahead of, between, behind these, as many as wanted");
        for (int b = 0; b < 256; b++) {
            String text = (char) b + "law 1 0;";
            if (b == 32 || b == 10) {
                reads(text, 0);
            } else {
                faulty(text, 0, 1);
            }
        }
    }

    private static void everyByteBehind() {
        for (int b = 0; b < 256; b++) {
            String text = "law 1 0;" + (char) b;
            if (b == 32 || b == 10) {
                reads(text, 0);
            } else {
                faulty(text, 8, 1);
            }
        }
    }

    private static void everyByteBetween() {
        c.says("NAMES (letters a to z), NUMBERS (figures, 3 at most), SIGNS ;");
        for (int b = 0; b < 256; b++) {
            char sign = (char) b;
            betweenNameAndNumber(sign);
            betweenNumberAndSign(sign);
        }
    }

    /** A letter makes the NAME longer, a figure the NUMBER. */
    private static void betweenNameAndNumber(char sign) {
        String text = "law" + sign + "1 0;";
        if (sign == ' ' || sign == '\n' || sign == '0') {
            reads(text, 0);
        } else if (sign >= '1' && sign <= '9') {
            faulty(text, 3, 2);
        } else {
            faulty(text, sign >= 'a' && sign <= 'z' ? 0 : 3, 1);
        }
    }

    private static void betweenNumberAndSign(char sign) {
        String text = "law 1 2" + sign + ";";
        if (sign == ' ' || sign == '\n' || sign == '0') {
            reads(text, 0);
        } else if (sign >= '1' && sign <= '9') {
            faulty(text, 6, 2);
        } else if (sign == ';') {
            faulty(text, 8, 1);
        } else {
            faulty(text, 7, 1);
        }
    }

    private static void blanks() {
        c.says("(none is needed where one ends without)");
        reads("law1 0;", 0);
        reads("law2 5;way0 1 1 1;person boy1 5;", 1);
        reads("law2 5;person\nboy1 5;", 1);
        faulty("law20;", 3, 2);
        faulty("law2;", 4, 1);
        faulty("law2 5;personboy 1 5;", 7, 1);
        faulty("law 2 5;way 01 1 1;", 15, 2);
        faulty("law 2 5;way 01 0 1;", 18, 1);
        faulty("la w 1 0;", 0, 1);
        faulty("law 2 1 5;", 8, 1);
        reads("  \n law\n\n1\n \n0\n;\n ", 0);
        faulty("law\r1 0;", 3, 1);
        faulty("law\t1 0;", 3, 1);
        faulty("law 1 0;\u000b", 8, 1);
        faulty("law 1 0;\u00a0", 8, 1);
    }

    private static void names() {
        c.says("law: 'law' HARBOURS RATE ';'");
        String[] none = {"l", "la", "lawa", "lawz", "laws", "low", "lax", "daw", "raw", "aw", "llaw", "way", "person", "boy"};
        for (String name : none) {
            faulty(name + " 1 0;", 0, 1);
        }
        faulty("Law 1 0;", 0, 1);
        faulty("LAW 1 0;", 0, 1);
        faulty("lAw 1 0;", 0, 1);
        faulty("law 1 0; law 1 0;", 9, 1);
        c.says("league: law { way } { person }.");
        faulty("way 0 1 1 1;law 2 0;", 0, 1);
        faulty("person boy 0 0;law 2 0;", 0, 1);
        faulty("law 2 0;person boy 0 0;way 0 1 1 1;", 23, 1);
        faulty("law 2 0;wa 0 1 1 1;", 8, 1);
        faulty("law 2 0;ways 0 1 1 1;", 8, 1);
        faulty("law 2 0;day 0 1 1 1;", 8, 1);
        faulty("law 2 0;berson boy 0 0;", 8, 1);
        faulty("law 2 0;person toy 0 0;", 15, 1);
        faulty("law 2 0;Way 0 1 1 1;", 8, 1);
        faulty("law 2 0;perso boy 0 0;", 8, 1);
        faulty("law 2 0;persons boy 0 0;", 8, 1);
        faulty("law 2 0;Person boy 0 0;", 8, 1);
        faulty("law 2 0;boy 0 0;", 8, 1);
        reads("law 2 0;", 0);
        reads("law 2 0;way 0 1 1 1;", 0);
        reads("law 2 0;person boy 0 0;", 1);
    }

    private static void figures() {
        c.says("(a run of four figures or more, at its first;");
        reads("law 001 000;", 0);
        reads("law 005 020;", 0);
        faulty("law 0001 0;", 4, 1);
        faulty("law 1 0000;", 6, 1);
        faulty("law 1 0020;", 6, 1);
        faulty("law 00001 0;", 4, 1);
        faulty("law 1 4294967296;", 6, 1);
        faulty("law 4294967297 0;", 4, 1);
        faulty("law 1 99999999999999999999999999;", 6, 1);
        faulty("law 1 0;0000", 8, 1);
        faulty("law 1 0;000", 8, 1);
        faulty("0000", 0, 1);
        faulty("law 1 0 1234;", 8, 1);
        faulty("law 1234", 4, 1);
        faulty("law 2 0;way 0 0001 1 1;", 14, 1);
        faulty("law 2 0;person boy 0 0000;", 21, 1);
        reads("law 2 0;way 000 001 020 020;person boy 001 099;", 1);
        c.says("2 a NUMBER that is not as told");
        faulty("law 1 999;", 6, 2);
        faulty("law 999 0;", 4, 2);
        faulty("law 010 0;", 4, 2);
        faulty("law -1 0;", 4, 1);
        faulty("law +1 0;", 4, 1);
        faulty("law 1 0.5;", 7, 1);
    }

    private static void lawNumbers() {
        c.says("(1 to 5; 0 to 20)");
        for (int v = 0; v <= 999; v++) {
            if (v >= 1 && v <= 5) {
                YoungerBack x = Checks.with("law " + v + " 0;");
                c.due("HARBOURS", x.count(3), v);
            } else {
                faulty("law " + v + " 0;", 4, 2);
            }
            if (v <= 20) {
                YoungerBack x = Checks.with("law 1 " + v + ";");
                c.due("RATE", x.count(5), v);
            } else {
                faulty("law 1 " + v + ";", 6, 2);
            }
        }
    }

    private static void wayNumbers() {
        c.says("way: 'way' A B SHORE OWN ';' (unlike HARBOURS, from 0 on; 1 to 20; 0 to SHORE;");
        for (int harbours = 1; harbours <= 5; harbours++) {
            for (int a = 0; a <= 6; a++) {
                for (int b = 0; b <= 6; b++) {
                    ends(harbours, a, b);
                }
            }
        }
        for (int shore = 0; shore <= 22; shore++) {
            for (int own = 0; own <= shore + 2; own++) {
                years(shore, own);
            }
        }
        faulty("law 5 0;way 999 0 1 1;", 12, 2);
        faulty("law 5 0;way 0 999 1 1;", 14, 2);
        faulty("law 5 0;way 0 1 999 1;", 16, 2);
        faulty("law 5 0;way 0 1 20 999;", 19, 2);
    }

    private static void ends(int harbours, int a, int b) {
        String text = "law " + harbours + " 0;way " + a + " " + b + " 7 3;";
        if (a >= harbours) {
            faulty(text, 12, 2);
        } else if (b >= harbours || b == a) {
            faulty(text, 14, 2);
        } else {
            YoungerBack x = Checks.with(text + "person captain " + a + " 0;person captain " + b + " 0;");
            c.due("there of " + text, x.sail(0, 0), b);
            c.due("and back of " + text, x.sail(1, 0), a);
        }
    }

    private static void years(int shore, int own) {
        String text = "law 2 0;way 0 1 " + shore + " " + own + ";";
        if (shore < 1 || shore > 20) {
            faulty(text, 16, 2);
        } else if (own > shore) {
            faulty(text, text.lastIndexOf(' ') + 1, 2);
        } else {
            YoungerBack x = Checks.with(text + "person captain 0 0;");
            x.sail(0, 0);
            c.due("SHORE of " + text, x.person(0, 1), shore);
            c.due("OWN of " + text, x.person(0, 2), own);
        }
    }

    private static void personNumbers() {
        c.says("a HARBOUR; 0 to 99;");
        for (int harbours = 1; harbours <= 5; harbours++) {
            for (int at = 0; at <= 6; at++) {
                String text = "law " + harbours + " 0;person monk " + at + " 50;";
                if (at < harbours) {
                    c.due("HARBOUR of " + text, Checks.with(text).person(0, 0), at);
                } else {
                    faulty(text, 20, 2);
                }
            }
        }
        for (int age = 0; age <= 999; age++) {
            String text = "law 2 0;person boy 1 " + age + ";";
            if (age <= 99) {
                c.due("AGE of " + text, Checks.with(text).person(0, 2), age);
            } else {
                faulty(text, 21, 2);
            }
        }
    }

    private static void sorts() {
        c.says("SORT: 'captain' | 'pilot' | 'monk' | 'clerk' | 'boy'");
        for (int k = 0; k < SORTS.length; k++) {
            c.due(SORTS[k], Checks.with("law 1 0;person " + SORTS[k] + " 0 0;").kind(0), k + 1);
            faulty("law 1 0;person " + SORTS[k] + "s 0 0;", 15, 1);
            faulty("law 1 0;person " + SORTS[k].substring(1) + " 0 0;", 15, 1);
            faulty("law 1 0;person " + SORTS[k].substring(0, SORTS[k].length() - 1) + " 0 0;", 15, 1);
            faulty("law 1 0;person " + SORTS[k].toUpperCase(java.util.Locale.ROOT) + " 0 0;", 15, 1);
            faulty("law 1 0;person " + SORTS[k] + " " + SORTS[k] + " 0 0;", 16 + SORTS[k].length(), 1);
        }
        faulty("law 1 0;person person 0 0;", 15, 1);
        faulty("law 1 0;person 0 0;", 15, 1);
        faulty("law 1 0;person ;", 15, 1);
    }

    private static void room() {
        c.says("3 a way, a person more than there is room for (its word).");
        reads(WAYS, 0);
        reads(WAYS + "person boy 0 0;", 1);
        faulty(WAYS + "way 0 1 1 1;", 104, 3);
        faulty(WAYS + "\n way", 106, 3);
        faulty(WAYS + "way way", 104, 3);
        faulty(WAYS + "way 9999", 104, 3);
        reads(PEOPLE, 4);
        faulty(PEOPLE + "person boy 0 0;", 68, 3);
        faulty(PEOPLE + "\n person", 70, 3);
        faulty(PEOPLE + "person x", 68, 3);
        reads(WAYS + PEOPLE.substring(8), 4);
        faulty(WAYS + PEOPLE.substring(8) + "person", 164, 3);
        YoungerBack x = Checks.with(WAYS + PEOPLE.substring(8));
        c.due("ways", x.count(2), 8);
        c.due("people", x.count(1), 4);
    }

    private static void theEnd() {
        c.says("the end: how many bytes there are)");
        faulty("", 0, 1);
        faulty(" ", 1, 1);
        faulty("\n\n ", 3, 1);
        faulty("law", 3, 1);
        faulty("law ", 4, 1);
        faulty("law 1 0", 7, 1);
        faulty("law 1 0 \n ", 10, 1);
        faulty("law 2 0;way", 11, 1);
        faulty("law 2 0;person boy 0 0", 22, 1);
    }

    /** Each beginning of a text: a NAME that is cut can't stand, else it is the end that can't. */
    private static void everyPrefix() {
        String text = "law 5 9;way 0 1 8 7;\nway 2 3 4 4;person monk 2 9; person pilot 1 8;";
        for (int n = 0; n <= text.length(); n++) {
            String cut = text.substring(0, n);
            String ahead = cut.stripTrailing();
            String stub = cut.replaceFirst("(?s)^.*[^a-z]", "");
            boolean whole = stub.isEmpty() || java.util.List.of("law", "way", "person", "monk", "pilot").contains(stub);
            if (ahead.endsWith(";")) {
                reads(cut, n < 40 ? 0 : n < 55 ? 1 : 2);
            } else {
                faulty(cut, whole ? n : n - stub.length(), 1);
            }
        }
    }

    private static void theFirstToken() {
        c.says("FAULTS, the first TOKEN that has one (its first byte), of one TOKEN the least:");
        faulty("law 6 21;x", 4, 2);
        faulty("law 5 21 x", 6, 2);
        faulty("law 5 x 99;", 6, 1);
        faulty("law 5 20;way 0 0 99 1;", 15, 2);
        faulty("law 5 20;way 5 x 99 1;", 13, 2);
        faulty("law 5 20;way 0 1 5 6", 19, 2);
        faulty("law 5 20;person boy 9 100;?", 20, 2);
        faulty("law 5 20;person man 9 100;", 16, 1);
        faulty("law 2 0;" + "way 0 1 1 1;".repeat(7) + "way 0 1 1 2;way 0 1 1 1;", 102, 2);
        faulty("law 2 0;" + "person boy 0 0;".repeat(3) + "person boy 0 100;person boy 0 0;", 66, 2);
    }

    private static void theLeastFault() {
        c.says("1 it cannot stand there, or is none");
        faulty("999", 0, 1);
        faulty("law 999 999 999;", 4, 2);
        faulty("law 1 0 999;", 8, 1);
        faulty("law 9999 0;", 4, 1);
        faulty("law 2 0;way 0 1 1 1 999;", 20, 1);
        faulty(PEOPLE + "way 0 1 1 1;", 68, 1);
        faulty(WAYS + "person boy 0 0;way 0 1 1 1;", 119, 1);
        faulty(WAYS + "ways", 104, 1);
        faulty(PEOPLE + "persona", 68, 1);
        faulty("law way", 4, 1);
        faulty("law 2 0;way person", 12, 1);
        faulty("law 2 0;way ;", 12, 1);
    }

    private static void inPlaceOfTheOneBefore() {
        c.says("A LEAGUE that is read stands in place of the one before (none at first): the CLOCK of each is 0, nobody owes anything; no ACT can be undone; IMAGES and ROWS stay.");
        String text = "law 2 20;way 0 1 5 1;person captain 0 30;person monk 1 99;";
        YoungerBack x = Checks.with(text);
        Checks.rowOf(x, 3, 0, 0);
        x.borrow(0, 9999);
        x.borrow(1, 1);
        x.sail(0, 0);
        x.stay(1, 99);
        x.image(0);
        x.ask(1, 1);
        x.as(0, 5);
        c.due("the same text once more", Checks.read(x, text), 2);
        c.person(x, 0, 0, 0, 30, 0, 0, 0);
        c.person(x, 1, 1, 0, 99, 0, 0, 0);
        c.due("borrowed anew: he owed nothing", x.borrow(0, 5), 0);
        c.due("one ACT can be undone", x.undo(), 0);
        c.due("no more of them", x.undo(), Checks.STATE);
        c.due("THE TRACE", x.trace(0), 22);
        c.due("status()", x.status(), 3);
        c.due("ROWS stay", x.count(0), 1);
        c.due("ITEMS stay", x.sails(0, 3, 0, 2), 2);
        c.due("the other IMAGE was never kept", x.restore(1), Checks.STATE);
        c.due("IMAGES stay", x.restore(0), 1);
        c.person(x, 0, 1, 5, 31, 4, 24877, 11998);
        c.person(x, 1, 1, 99, 198, 0);
        c.due("fewer of all", Checks.read(x, "law 1 0;"), 0);
        int[] want = {1, 0, 0, 1, 0, 0, 0};
        for (int what = 0; what <= 6; what++) {
            c.due("count(" + what + ")", x.count(what), want[what]);
        }
        c.due("nobody of the one before", x.person(0, 0), Checks.BAD);
        c.due("no ACT", x.undo(), Checks.STATE);
    }

    private static void faultLeavesAll() {
        c.says("-1000100 less the place of a FAULT: all but the tape, and what fault() tells, stays.");
        String[] faults = {"", "law 1 0", "law 3 9;way 0 2 9 9;person monk 0 0;person clerk 9", WAYS + "way"};
        for (String fault : faults) {
            YoungerBack x = beforeFault();
            YoungerBack y = beforeFault();
            int number = Checks.read(x, fault);
            c.holds("a FAULT of '" + fault + "'", number <= -1000100);
            c.due("status()", x.status(), y.status());
            // what fault() tells becomes the same on both, and on both it is a FAULT that does it
            Checks.read(x, "law 9 9;");
            Checks.read(y, "law 9 9;");
            c.holds("all stays", Told.of(x).equals(Told.of(y)));
        }
    }

    private static YoungerBack beforeFault() {
        YoungerBack x = Checks.with("law 3 20;way 0 1 5 1;way 1 2 4 0;person captain 0 30;person monk 1 99;person boy 2 3;");
        Checks.rowOf(x, 3, 0, 1);
        x.borrow(0, 9999);
        x.image(1);
        x.sail(0, 0);
        x.stay(1, 99);
        x.ask(1, 1);
        x.as(0, 5);
        return x;
    }

    private static void latestFault() {
        c.says("The number of the latest FAULT; 0 before one.");
        YoungerBack x = new YoungerBack();
        c.due("before one", x.fault(), 0);
        Checks.read(x, "law 1 0;");
        c.due("read without one", x.fault(), 0);
        x.feed(0L, 9);
        x.set(0, 0, 0);
        c.due("others are none", x.fault(), 0);
        Checks.read(x, WAYS + "way");
        c.due("3", x.fault(), 3);
        Checks.read(x, "law 9 9;");
        c.due("2", x.fault(), 2);
        Checks.read(x, "law 1 0;");
        c.due("the latest one, still", x.fault(), 2);
        Checks.read(x, "9");
        c.due("1", x.fault(), 1);
    }
}
