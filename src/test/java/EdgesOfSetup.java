/** The edges that the promises 1 to 10 name: a new object, the TAPE, SCOPES, CLIENTS, REDIRECTS, LIVES, DICE, NOW. */
final class EdgesOfSetup {
    private static final int LOWEST = Integer.MIN_VALUE;
    private static final int HIGHEST = Integer.MAX_VALUE;

    static void run() {
        newObject();
        feedBytes();
        feedBeyond();
        end();
        endThatIsNone();
        again();
        againBeyondOut();
        againBeyondTape();
        scope();
        scopeThrows();
        client();
        clientThrows();
        redirect();
        redirectThrows();
        lives();
        livesThrows();
        dice();
        tick();
        tickThrows();
    }

    private static void newObject() {
        Doc.says("No SCOPES, CLIENTS, DICE; status, error 0; TAPE and OUT are empty.");
        Kit kit = new Kit();
        for (int what = 0; what <= 11; what++) {
            Kit.due("count(" + what + ")", 0, kit.count(what));
        }
        kit.answered("a new object", 0, 0, 0);
        Kit.due("out(0)", Kit.NONE, kit.out(0));
        Kit.due("end(1)", 0, kit.end(1) ? 1 : 0);
        Kit.due("again(0, 1)", Kit.NONE, kit.again(0, 1));
        Kit.due("code(0, 0)", Kit.NO_SUCH, Kit.thrown(() -> kit.code(0, 0)));
        Kit.due("family(0, 0)", Kit.NO_SUCH, Kit.thrown(() -> kit.family(0, 0)));
        Kit.due("consent(0, ..)", Kit.NO_SUCH, Kit.thrown(() -> kit.consent(0, 0, 0, false)));
        Kit.due("check(0)", Kit.INDEX, Kit.thrown(() -> kit.check(0)));
        Kit.due("redirect(0)", Kit.INDEX, Kit.thrown(() -> kit.redirect(0)));
        Kit.due("authorize()", Kit.NONE, kit.authorize());
        kit.answered("authorize()", 400, 6, 0);
    }

    private static final String FEED = "Twenty bytes come behind the TAPE, of each number the highest first: "
        + "how many it has; NONE, and none come, if it would have more than 2000.";

    private static void feedBytes() {
        Doc.says(FEED);
        Kit kit = Kit.world();
        kit.put("client_id=x&state=");
        Kit.due("feed()", 38, kit.feed(0x31323334, 0x35363738, 0x39414243, 0x44454647, 0x48494a4b));
        Kit.due("feed()", 58, kit.feed(0x61626364, 0x65666768, 0x696a6b6c, 0x6d6e6f70, 0x71727374));
        kit.authorize();
        kit.answered("bytes in their order", 302, 1, "u:v?error=invalid_request&state=123456789ABCDEFGHIJKabcdefghijklmnopqrst");
        for (int at = 0; at < 20; at++) {
            int[] n = {0x61616161, 0x61616161, 0x61616161, 0x61616161, 0x61616161};
            n[at / 4] ^= 0x03 << 24 - at % 4 * 8;
            Kit each = Kit.world();
            each.put("client_id=x&state=");
            each.feed(n[0], n[1], n[2], n[3], n[4]);
            each.authorize();
            Kit.due("byte " + at, 'b', each.out(32 + at));
            Kit.due("byte " + at + " alone", "a".repeat(19), each.text().substring(32).replace("b", ""));
        }
        int[] high = {-1, 0x80000000, 0xff000000, 0x00ff0000, 0x0000ff00, 0x000000ff};
        for (int number : high) {
            Kit each = Kit.world();
            each.feed(number, 0, 0, 0, 0);
            each.end(4);
            each.authorize();
            each.answered("bytes above 127 are no FORM", 400, 1, 0);
        }
    }

    private static void feedBeyond() {
        Doc.says(FEED);
        Kit kit = new Kit();
        for (int many = 20; many <= 2000; many += 20) {
            Kit.due("feed() to " + many, many, kit.feed(many, 0, 0, 0, 0));
        }
        for (int size = 2000; size >= 1975; size--) {
            kit.end(size);
            int want = size + 20 > 2000 ? Kit.NONE : size + 20;
            Kit.due("feed() with " + size, want, kit.feed(0, 0, 0, 0, 0));
            Kit.due("the TAPE then", want == Kit.NONE ? size : want, kit.count(11));
        }
    }

    private static final String END = "The TAPE has its first n bytes alone: true; false, and nothing happens, "
        + "if it has fewer, or n is below 0.";

    private static void end() {
        Doc.says(END);
        for (int n = 0; n <= 20; n++) {
            Kit kit = new Kit();
            kit.feed(0x61626364, 0x65666768, 0x696a6b6c, 0x6d6e6f70, 0x71727374);
            Kit.due("end(" + n + ") of 20", 1, kit.end(n) ? 1 : 0);
            Kit.due("the TAPE then", n, kit.count(11));
            Kit.due("the same once more", 1, kit.end(n) ? 1 : 0);
            Kit.due("one more than it has", 0, kit.end(n + 1) ? 1 : 0);
            kit.end(Math.min(n, 12));
            Kit.due("its first bytes", n == 0 ? Kit.ILLEGAL : Kit.NO, Kit.thrown(kit::scope));
            String first = "abcdefghijklmnopqrst".substring(0, Math.min(n, 12));
            Kit.due("they are " + first, Kit.ILLEGAL, Kit.thrown(() -> kit.scope(first)));
        }
    }

    private static void endThatIsNone() {
        Doc.says(END);
        for (int size = 0; size <= 40; size += 20) {
            Kit kit = new Kit();
            for (int i = 0; i < size; i += 20) {
                kit.feed(1, 1, 1, 1, 1);
            }
            int[] none = {size + 1, size + 2, 2000, 2001, HIGHEST, -1, -2, LOWEST, LOWEST + 1};
            for (int n : none) {
                Kit.due("end(" + n + ") of " + size, 0, kit.end(n) ? 1 : 0);
                Kit.due("the TAPE then", size, kit.count(11));
            }
            Kit.due("end(" + size + ") of " + size, 1, kit.end(size) ? 1 : 0);
        }
    }

    private static final String AGAIN = "OUT's bytes from one on, so many, come behind the TAPE: how many it has; "
        + "NONE, and none come, if OUT has not these, or it would have more than 2000.";

    private static void again() {
        Doc.says(AGAIN);
        String out = "u:v?error=invalid_request";
        for (int from = 0; from < out.length(); from++) {
            for (int many = 1; many <= 4 && from + many <= out.length(); many++) {
                Kit kit = Kit.world();
                kit.authorize("client_id=x");
                kit.put("~");
                Kit.due("again(" + from + ", " + many + ")", 1 + many, kit.again(from, many));
                Kit.due("OUT stays", out.length(), kit.outs());
                kit.scope();
                String word = "~" + out.substring(from, from + many);
                Kit.due("the TAPE was " + word, Kit.ILLEGAL, Kit.thrown(() -> kit.scope(word)));
            }
        }
        Kit kit = Kit.world();
        kit.authorize("client_id=x");
        Kit.due("all of OUT", 25, kit.again(0, 25));
        Kit.due("all of it once more", 50, kit.again(0, 25));
        Kit.due("none of it", 50, kit.again(0, 0));
        Kit.due("none of it, at its end", 50, kit.again(25, 0));
    }

    private static void againBeyondOut() {
        Doc.says(AGAIN);
        Kit kit = Kit.world();
        kit.authorize("client_id=x");
        kit.put("ab");
        int[][] none = {{0, 26}, {1, 25}, {24, 2}, {25, 1}, {26, 1}, {-1, 1}, {-1, 2}, {-1, 26}, {0, -1}, {1, -1}, {25, -1},
            {HIGHEST, 1}, {1, HIGHEST}, {HIGHEST, HIGHEST}, {LOWEST, 1}, {1, LOWEST}, {LOWEST, LOWEST}, {LOWEST, HIGHEST},
            {HIGHEST, LOWEST}, {0, HIGHEST}, {0, LOWEST}, {HIGHEST - 24, 25}, {-25, 25}};
        for (int[] n : none) {
            Kit.due("again(" + n[0] + ", " + n[1] + ")", Kit.NONE, kit.again(n[0], n[1]));
            Kit.due("the TAPE then", 2, kit.count(11));
        }
        Kit.due("again(24, 1)", 3, kit.again(24, 1));
        Kit.due("again(0, 25)", 28, kit.again(0, 25));
        Kit empty = new Kit();
        Kit.due("again(0, 0) of an empty OUT", 0, empty.again(0, 0));
        Kit.due("again(0, 1) of an empty OUT", Kit.NONE, empty.again(0, 1));
    }

    private static void againBeyondTape() {
        Doc.says(AGAIN);
        for (int free = 0; free <= 26; free++) {
            for (int many = free - 1; many <= free + 1; many++) {
                Kit kit = Kit.world();
                kit.authorize("client_id=x");
                for (int i = 0; i < 100; i++) {
                    kit.feed(0, 0, 0, 0, 0);
                }
                kit.end(2000 - free);
                int want = many < 0 || many > 25 || many > free ? Kit.NONE : 2000 - free + many;
                Kit.due("again(0, " + many + ") with " + free + " free", want, kit.again(0, many));
                Kit.due("the TAPE then", want == Kit.NONE ? 2000 - free : want, kit.count(11));
            }
        }
    }

    private static void scope() {
        Doc.says("Uses the TAPE up: it is a new SCOPE's WORD: its number.");
        Kit kit = new Kit();
        String[] words = {"a", "aa", "A", "b", "aaa", "ab", "ba", "aaaaaaaaaaaa"};
        for (int k = 0; k < 8; k++) {
            Kit.due("scope() of " + words[k], k, kit.scope(words[k]));
            Kit.due("the TAPE then", 0, kit.count(11));
            Kit.due("SCOPES", k + 1, kit.count(0));
        }
    }

    private static void scopeThrows() {
        Doc.says("IllegalArgumentException: it is none, or there is one of these bytes; "
            + "UnsupportedOperationException: there are 8.");
        Kit kit = new Kit();
        for (int k = 0; k < 8; k++) {
            String word = "s" + k;
            Kit.due("scope() of none", Kit.ILLEGAL, Kit.thrown(() -> kit.scope("a b")));
            Kit.due("scope() with " + k, k, kit.scope(word));
            Kit.due("scope() of one that there is", Kit.ILLEGAL, Kit.thrown(() -> kit.scope(word)));
            Kit.due("scope() of the first one", Kit.ILLEGAL, Kit.thrown(() -> kit.scope("s0")));
        }
        kit.throwing("scope() with 8", Kit.UNSUPPORTED, 0, () -> kit.scope("s8"));
        kit.throwing("scope() of none, with 8", Kit.ILLEGAL, 0, () -> kit.scope("s8345678901234"));
        kit.throwing("scope() of one that there is, with 8", Kit.ILLEGAL, 0, () -> kit.scope("s7"));
    }

    private static void client() {
        Doc.says("Uses the TAPE up: an ID, of a CONFIDENTIAL CLIENT a byte 0 and a SECRET behind it: "
            + "a new CLIENT, without REDIRECTS: its number.");
        Kit kit = new Kit();
        for (int k = 0; k < 8; k++) {
            Kit.due("client() with " + k, k, kit.client("c" + k, k % 2 == 0 ? null : "s", 0, true));
            Kit.due("the TAPE then", 0, kit.count(11));
            Kit.due("CLIENTS", k + 1, kit.count(1));
            kit.authorize("client_id=c" + k);
            kit.answered("it has no REDIRECT", 400, 1, 0);
            Kit.due("its first REDIRECT", 1, kit.redirect(k, "u"));
        }
    }

    private static void clientThrows() {
        Doc.says("IllegalArgumentException: it is not so, scopes has a bit of no SCOPE, or there is one of that ID; "
            + "UnsupportedOperationException: there are 8.");
        String[] notPublic = {"", " ", "c\0", "\0c", "c\0s", "c d", "c\n", "i".repeat(21)};
        String[] notConfidential = {"", "c", "cs", "c\0", "\0s", "\0", "\0\0", "c\0\0s", "c\0s\0", "c\0s t", "c d\0s",
            "i".repeat(21) + "\0s", "c\0" + "s".repeat(21), "i".repeat(41), "c s"};
        for (String text : notPublic) {
            Kit kit = Kit.world();
            kit.put(text);
            kit.throwing("client() of '" + text + "'", Kit.ILLEGAL, 0, () -> kit.client(false, 0, true));
        }
        for (String text : notConfidential) {
            Kit kit = Kit.world();
            kit.put(text);
            kit.throwing("client() of '" + text + "', CONFIDENTIAL", Kit.ILLEGAL, 0, () -> kit.client(true, 0, true));
        }
        int[] bits = {8, 9, 15, 16, 128, 256, -1, -8, LOWEST, HIGHEST, LOWEST | 7};
        for (int set : bits) {
            Kit kit = Kit.world();
            kit.throwing("client() for " + set, Kit.ILLEGAL, 0, () -> kit.client("c", null, set, true));
            kit.throwing("client() for " + set, Kit.ILLEGAL, 0, () -> kit.client("c", "s", set, true));
            Kit.due("client() for 7", 2, kit.client("c", null, 7, true));
            Kit.due("client() for 0", 3, kit.client("d", null, 0, true));
        }
        Kit kit = Kit.world();
        kit.throwing("a PUBLIC one's ID", Kit.ILLEGAL, 0, () -> kit.client("x", "t", 0, true));
        kit.throwing("a CONFIDENTIAL one's ID", Kit.ILLEGAL, 0, () -> kit.client("y", null, 0, true));
        kit.throwing("a CONFIDENTIAL one's ID and SECRET", Kit.ILLEGAL, 0, () -> kit.client("y", "s", 0, true));
        for (int k = 2; k < 8; k++) {
            Kit.due("the same SECRET", k, kit.client("y" + k, "s", 0, true));
        }
        kit.throwing("client() with 8", Kit.UNSUPPORTED, 0, () -> kit.client("n", null, 7, true));
        kit.throwing("client() of one that there is, with 8", Kit.ILLEGAL, 0, () -> kit.client("y7", null, 7, true));
        kit.throwing("client() for 8, with 8", Kit.ILLEGAL, 0, () -> kit.client("n", null, 8, true));
    }

    private static void redirect() {
        Doc.says("Uses the TAPE up: a REDIRECT more: how many the CLIENT has.");
        Kit kit = new Kit();
        kit.client("a", null, 0, true);
        kit.client("b", "s", 0, true);
        for (int many = 1; many <= 3; many++) {
            for (int client = 0; client < 2; client++) {
                Kit.due("redirect(" + client + ")", many, kit.redirect(client, "u" + many));
                Kit.due("the TAPE then", 0, kit.count(11));
            }
        }
        Kit same = new Kit();
        same.client("a", null, 0, true);
        for (int many = 1; many <= 3; many++) {
            Kit.due("the same bytes", many, same.redirect(0, "u"));
        }
    }

    private static void redirectThrows() {
        Doc.says("IllegalArgumentException: it is none; UnsupportedOperationException: it has 3.");
        String[] none = {"", " ", "#", "u#", "#u", "u v", "u\0", "\u007f", "\u0080", "u".repeat(81)};
        for (int many = 0; many <= 3; many++) {
            for (String text : none) {
                Kit kit = new Kit();
                kit.client("a", null, 0, true);
                for (int i = 0; i < many; i++) {
                    kit.redirect(0, "u");
                }
                kit.throwing("redirect() of '" + text + "' with " + many, Kit.ILLEGAL, 0, () -> kit.redirect(0, text));
                if (many == 3) {
                    kit.throwing("redirect() with 3", Kit.UNSUPPORTED, 0, () -> kit.redirect(0, "u"));
                } else {
                    Kit.due("redirect() with " + many, many + 1, kit.redirect(0, "u"));
                }
            }
        }
    }

    private static void lives() {
        Doc.says("The LIVES from now on.");
        int[] some = {1, 2, 59, 61, 100000};
        for (int life : some) {
            for (int late = life - 1; late <= life; late++) {
                Kit kit = Kit.world();
                kit.give("x", 3, 5, 31);
                kit.lives(life, life, life);
                kit.start(1, 3, 5);
                kit.give("x", 3, 5, 11);
                kit.roll(4, 5);
                kit.tick(late);
                Kit.due("a CODE of " + life + " at " + late, late < life ? 0 : 2, kit.code(2, 0));
                Kit.due("a CODE of before at " + late, late < 60 ? 0 : 2, kit.code(0, 0));
                Kit.due("ACCESS of " + life + " at " + late, late < life ? 1 : 0, kit.family(0, 4));
                Kit.due("REFRESH of " + life + " at " + late, late < life ? 200 : 400, kit.turn(3, ""));
            }
        }
        int[][] three = {{10, 20, 30}, {30, 10, 20}, {20, 30, 10}};
        for (int[] n : three) {
            for (int late = 9; late <= 30; late++) {
                Kit kit = Kit.world();
                kit.lives(n[0], n[1], n[2]);
                kit.start(1, 3, 5);
                kit.give("x", 3, 5, 11);
                kit.roll(4, 5);
                kit.tick(late);
                Kit.due("a CODE of " + n[0] + " at " + late, late < n[0] ? 0 : 2, kit.code(1, 0));
                Kit.due("ACCESS of " + n[1] + " at " + late, late < n[1] ? 1 : 0, kit.family(0, 4));
                Kit.due("REFRESH of " + n[2] + " at " + late, late < n[2] ? 200 : 400, kit.turn(3, ""));
            }
        }
    }

    private static void livesThrows() {
        Doc.says("IllegalArgumentException: one is not 1 to 1000000.");
        int[] lives = {LOWEST, -1, 0, 1, 2, 999999, 1000000, 1000001, HIGHEST};
        for (int life : lives) {
            String want = life >= 1 && life <= 1000000 ? Kit.NO : Kit.ILLEGAL;
            Kit kit = Kit.world();
            Kit.due("lives(" + life + ", 1, 1)", want, Kit.thrown(() -> kit.lives(life, 1, 1)));
            Kit.due("lives(1, " + life + ", 1)", want, Kit.thrown(() -> kit.lives(1, life, 1)));
            Kit.due("lives(1, 1, " + life + ")", want, Kit.thrown(() -> kit.lives(1, 1, life)));
        }
        int[][] bad = {{0, 7, 7}, {7, 0, 7}, {7, 7, 0}, {1000001, 7, 7}, {7, 1000001, 7}, {7, 7, 1000001}};
        for (int[] n : bad) {
            Kit kit = Kit.world();
            kit.throwing("lives()", Kit.ILLEGAL, 0, () -> kit.lives(n[0], n[1], n[2]));
            kit.start(1, 3, 5);
            kit.give("x", 3, 5, 11);
            kit.roll(4, 5, 6, 7);
            kit.tick(59);
            Kit.due("a CODE at 59 of 60", 0, kit.code(1, 0));
            kit.tick(540);
            Kit.due("ACCESS at 599 of 600", 1, kit.family(0, 4));
            kit.tick(9400);
            Kit.due("REFRESH at 9999 of 10000", 200, kit.turn(3, ""));
        }
        Kit most = Kit.world();
        most.lives(1000000, 1000000, 1000000);
        most.start(1, 3, 5);
        most.give("x", 3, 5, 11);
        most.roll(4, 5);
        for (int i = 0; i < 9; i++) {
            most.tick(100000);
        }
        most.tick(99999);
        Kit.due("a CODE at 999999 of 1000000", 0, most.code(1, 0));
        Kit.due("ACCESS at 999999 of 1000000", 1, most.family(0, 4));
        most.tick(1);
        Kit.due("a CODE at 1000000 of 1000000", 2, most.code(1, 0));
        Kit.due("ACCESS at 1000000 of 1000000", 0, most.family(0, 4));
        Kit.due("REFRESH at 1000000 of 1000000", 400, most.turn(3, ""));
    }

    private static void dice() {
        Doc.says("A number of 16 bytes (of each the highest first) comes behind the DICE: how many wait; "
            + "NONE, and none comes, if there are 60.");
        for (int at = 0; at < 16; at++) {
            int[] n = new int[4];
            n[at / 4] = 0x84 << 24 - at % 4 * 8;
            Kit kit = Kit.world();
            kit.ask("x", "");
            Kit.due("dice()", 1, kit.dice(n[0], n[1], n[2], n[3]));
            kit.consent(0, 1, 1, true);
            kit.answered("byte " + at, 302, 0, "u:v?code=" + Kit.handle(n[0], n[1], n[2], n[3]));
        }
        Kit kit = Kit.world();
        kit.ask("x", "");
        kit.ask("x", "");
        kit.roll(100);
        kit.consent(0, 1, 1, true);
        for (int i = 1; i <= 60; i++) {
            Kit.due("die " + i, i, kit.dice(100, 100, 100, i < 60 ? 100 : 7));
        }
        Kit.due("a 61st", Kit.NONE, kit.dice(8, 8, 8, 8));
        Kit.due("a 62nd", Kit.NONE, kit.dice(100, 100, 100, 100));
        Kit.due("DICE that wait", 60, kit.count(2));
        kit.consent(1, 1, 1, true);
        kit.answered("the 60th is taken", 302, 0, "u:v?code=" + Kit.handle(100, 100, 100, 7));
        Kit.due("the 61st did not come", 0, kit.count(2));
        Kit.due("one comes then", 1, kit.dice(8, 8, 8, 8));
    }

    private static void tick() {
        Doc.says("NOW goes on: NOW.");
        Kit kit = new Kit();
        int now = 0;
        int[] ticks = {0, 1, 0, 2, 99999, 100000, 7, 100000};
        for (int n : ticks) {
            now += n;
            Kit.due("tick(" + n + ")", now, kit.tick(n));
            Kit.due("NOW", now, kit.count(10));
        }
        Kit far = new Kit();
        for (int i = 1; i <= 511; i++) {
            Kit.due("tick(100000) for the time " + i, i * 100000, far.tick(100000));
        }
        Kit.due("NOW", 51100000, far.count(10));
    }

    private static void tickThrows() {
        Doc.says("IllegalArgumentException: not 0 to 100000.");
        int[] ticks = {LOWEST, -100000, -1, 0, 1, 99999, 100000, 100001, 1000000, HIGHEST};
        for (int n : ticks) {
            Kit kit = new Kit();
            kit.tick(5);
            boolean good = n >= 0 && n <= 100000;
            Kit.due("tick(" + n + ")", good ? Kit.NO : Kit.ILLEGAL, Kit.thrown(() -> kit.tick(n)));
            Kit.due("NOW", good ? 5 + n : 5, kit.count(10));
        }
    }
}
