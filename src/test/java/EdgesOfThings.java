/** The edges that the sentences of Terms 1 name: SCOPES, CLIENTS, HANDLES and DICE, NOW and the LIVES. */
final class EdgesOfThings {
    private static final String TWENTY = "abcdefghijklmnopqrst";

    static void run() {
        scopeCount();
        scopeWords();
        bits();
        scopeValues();
        ids();
        secrets();
        redirects();
        mayAskAndRefresh();
        signs();
        waiting();
        firstNotMade();
        tooFew();
        now();
        livesAtFirst();
        goodAsLong();
    }

    private static boolean visible(int b) {
        return b >= 33 && b <= 126;
    }

    private static void throwsIllegal(String what, boolean illegal, Runnable call) {
        Kit.due(what + " throws", illegal ? Kit.ILLEGAL : Kit.NO, Kit.thrown(call));
    }

    private static void scopeCount() {
        Doc.says("SCOPES (at most 8, numbered from 0 on) have WORDS: 1 to 12 bytes of 33 to 126 but \" and backslash.");
        Kit kit = new Kit();
        for (int k = 0; k < 8; k++) {
            Kit.due("SCOPE " + k, k, kit.scope("s" + k));
            Kit.due("SCOPES", k + 1, kit.count(0));
        }
        Kit.due("a ninth", Kit.UNSUPPORTED, Kit.thrown(() -> kit.scope("s8")));
        Kit.due("SCOPES", 8, kit.count(0));
    }

    private static void scopeWords() {
        Doc.says("SCOPES (at most 8, numbered from 0 on) have WORDS: 1 to 12 bytes of 33 to 126 but \" and backslash.");
        for (int size = 0; size <= 25; size++) {
            String word = "w".repeat(size);
            throwsIllegal("a WORD of " + size, size < 1 || size > 12, () -> new Kit().scope(word));
        }
        throwsIllegal("a WORD of 2000", true, () -> new Kit().scope("w".repeat(2000)));
        for (int b = 0; b < 256; b++) {
            String one = EdgesOfForms.sign(b);
            boolean no = !visible(b) || b == '"' || b == '\\';
            throwsIllegal("a WORD of byte " + b, no, () -> new Kit().scope(one));
            throwsIllegal("a WORD that begins with byte " + b, no, () -> new Kit().scope(one + "w"));
            throwsIllegal("a WORD that ends with byte " + b, no, () -> new Kit().scope("ww" + one));
            throwsIllegal("a WORD of 12 with byte " + b, no, () -> new Kit().scope("wwwww" + one + "wwwwww"));
        }
    }

    /** SCOPES s0 to s7; CLIENT 0 is x, PUBLIC, with all of them and REFRESH. */
    private static Kit eight() {
        Kit kit = new Kit();
        for (int k = 0; k < 8; k++) {
            kit.scope("s" + k);
        }
        kit.client("x", null, 255, true);
        kit.redirect(0, "u:v");
        return kit;
    }

    private static void bits() {
        Doc.says("A set of them is told as bits (bit k is SCOPE k).");
        for (int k = 0; k < 8; k++) {
            Kit kit = eight();
            kit.start(1, 1 << k, 9);
            Kit.due("the CODE's SCOPES", 1 << k, kit.code(0, 3));
            Kit.due("the FAMILY's SCOPES", 1 << k, kit.family(0, 3));
            Kit.due("SCOPE " + k + " in OUT", '0' + k, kit.out(kit.outs() - 3));
            Kit.due("OUT with one WORD", 134, kit.outs());
            for (int other = 0; other < 8; other++) {
                Kit.due("SCOPE " + other + " of bit " + k, other == k ? 9 : 0, kit.check(Kit.handle(2), other));
            }
        }
        for (int many = 0; many <= 8; many++) {
            for (int bit = 0; bit < 32; bit++) {
                Kit kit = new Kit();
                for (int k = 0; k < many; k++) {
                    kit.scope("s" + k);
                }
                int set = 1 << bit;
                throwsIllegal("bit " + bit + " with " + many + " SCOPES", bit >= many, () -> kit.client("x", null, set, true));
            }
        }
    }

    private static void scopeValues() {
        Doc.says("A scope's VALUE: WORDS with one or more blanks between, ahead of or behind them; "
            + "one that is no SCOPE's is unknown (blanks alone are no SCOPES, and no fault).");
        String[] told = {"r", "w", "r+w", "w+r", "r++w", "r+%20+w", "+r", "+++w", "r+", "r+++", "++r++w++", "r+r", "r+w+r",
            "+", "%20", "++++++"};
        int[] bits = {1, 2, 3, 3, 3, 3, 1, 2, 1, 1, 3, 1, 3, 0, 0, 0};
        for (int i = 0; i < told.length; i++) {
            Kit kit = Kit.world();
            Kit.due("scope=" + told[i], 0, kit.ask("x", "&scope=" + told[i]));
            for (int k = 0; k < 8; k++) {
                int bit = 1 << k;
                // Without DICE, yes to what the REQUEST has is IllegalStateException.
                Kit.due("SCOPE " + k + " of scope=" + told[i], (bits[i] & bit) != 0 ? Kit.STATE : Kit.ILLEGAL,
                    Kit.thrown(() -> kit.consent(0, 1, bit, true)));
            }
        }
        String[] unknown = {"z", "r+z", "z+r", "+z+", "R", "rw", "rr", "r%09w", "r%0Aw", "r%00", "%00", "r,w", "r%2Bw",
            "r%A0w", "r%22", "%5C", "rwrwrwrwrwrwr", "r".repeat(500)};
        for (String value : unknown) {
            Kit kit = Kit.world();
            Kit.due("scope=" + value, Kit.NONE, kit.ask("x", "&scope=" + value));
            kit.answered("scope=" + value, 302, 5, "u:v?error=invalid_scope");
        }
        Kit kit = new Kit();
        kit.scope("123456789012");
        kit.client("x", null, 1, true);
        kit.redirect(0, "u");
        Kit.due("a WORD of 12", 0, kit.ask("x", "&scope=123456789012"));
        Kit.due("11 of its bytes", Kit.NONE, kit.ask("x", "&scope=12345678901"));
        Kit.due("one byte more", Kit.NONE, kit.ask("x", "&scope=1234567890123"));
        Kit.due("its last byte is another", Kit.NONE, kit.ask("x", "&scope=123456789013"));
    }

    private static void ids() {
        Doc.says("CLIENTS (at most 8, numbered from 0 on): an ID (1 to 20 bytes of 33 to 126),");
        Kit kit = new Kit();
        for (int k = 0; k < 8; k++) {
            Kit.due("CLIENT " + k, k, kit.client("c" + k, null, 0, true));
            Kit.due("CLIENTS", k + 1, kit.count(1));
        }
        Kit.due("a ninth", Kit.UNSUPPORTED, Kit.thrown(() -> kit.client("c8", null, 0, true)));
        Kit.due("CLIENTS", 8, kit.count(1));
        for (int size = 0; size <= 45; size++) {
            String id = "i".repeat(size);
            boolean no = size < 1 || size > 20;
            throwsIllegal("an ID of " + size, no, () -> new Kit().client(id, null, 0, true));
            throwsIllegal("an ID of " + size + ", CONFIDENTIAL", no, () -> new Kit().client(id, "s", 0, true));
        }
        for (int b = 0; b < 256; b++) {
            String one = EdgesOfForms.sign(b);
            throwsIllegal("an ID of byte " + b, !visible(b), () -> new Kit().client(one, null, 0, true));
            throwsIllegal("an ID that ends with byte " + b, !visible(b), () -> new Kit().client("i" + one, null, 0, true));
            throwsIllegal("an ID of byte " + b + ", CONFIDENTIAL", !visible(b), () -> new Kit().client(one, "s", 0, true));
        }
    }

    private static void secrets() {
        Doc.says("a SECRET (likewise; such a CLIENT is CONFIDENTIAL) or none (PUBLIC);");
        for (int size = 0; size <= 45; size++) {
            String secret = "s".repeat(size);
            throwsIllegal("a SECRET of " + size, size < 1 || size > 20, () -> new Kit().client("i", secret, 0, true));
        }
        throwsIllegal("both of 20", false, () -> new Kit().client(TWENTY, TWENTY, 0, true));
        for (int b = 0; b < 256; b++) {
            String one = EdgesOfForms.sign(b);
            throwsIllegal("a SECRET of byte " + b, !visible(b), () -> new Kit().client("i", one, 0, true));
            throwsIllegal("a SECRET that ends with byte " + b, !visible(b), () -> new Kit().client("i", "s" + one, 0, true));
        }
        Kit kit = new Kit();
        kit.client("c", TWENTY, 0, true);
        kit.client("p", null, 0, true);
        Kit.due("its SECRET", 400, kit.token("grant_type=x&client_id=c&client_secret=" + TWENTY));
        Kit.due("19 bytes of it", 401, kit.token("grant_type=x&client_id=c&client_secret=" + TWENTY.substring(1)));
        Kit.due("19 bytes of it", 401, kit.token("grant_type=x&client_id=c&client_secret=" + TWENTY.substring(0, 19)));
        Kit.due("one byte more", 401, kit.token("grant_type=x&client_id=c&client_secret=" + TWENTY + "t"));
        Kit.due("none", 401, kit.token("grant_type=x&client_id=c"));
        Kit.due("none, of a PUBLIC one", 400, kit.token("grant_type=x&client_id=p"));
        Kit.due("one, of a PUBLIC one", 401, kit.token("grant_type=x&client_id=p&client_secret=" + TWENTY));
    }

    private static void redirects() {
        Doc.says("at most 3 REDIRECTS (1 to 80 bytes of 33 to 126, no #);");
        Kit kit = Kit.world();
        Kit.due("a second", 2, kit.redirect(0, "b"));
        Kit.due("a third", 3, kit.redirect(0, "c"));
        kit.throwing("a fourth", Kit.UNSUPPORTED, 0, () -> kit.redirect(0, "d"));
        kit.authorize("client_id=x&redirect_uri=d");
        kit.answered("the fourth is none", 400, 1, 0);
        kit.authorize("client_id=x&redirect_uri=c");
        kit.answered("the third is one", 302, 1, "c?error=invalid_request");
        Kit.due("another CLIENT's second", 2, kit.redirect(1, "d"));
        for (int size = 0; size <= 85; size++) {
            String text = "r".repeat(size);
            throwsIllegal("a REDIRECT of " + size, size < 1 || size > 80, () -> Kit.world().redirect(0, text));
        }
        throwsIllegal("a REDIRECT of 2000", true, () -> Kit.world().redirect(0, "r".repeat(2000)));
        for (int b = 0; b < 256; b++) {
            String one = EdgesOfForms.sign(b);
            boolean no = !visible(b) || b == '#';
            throwsIllegal("a REDIRECT of byte " + b, no, () -> Kit.world().redirect(0, one));
            throwsIllegal("a REDIRECT that ends with byte " + b, no, () -> Kit.world().redirect(0, "u:v" + one));
            throwsIllegal("a REDIRECT of 80 with byte " + b, no,
                () -> Kit.world().redirect(0, "r".repeat(40) + one + "r".repeat(39)));
        }
        Kit most = new Kit();
        most.client("x", null, 0, true);
        most.redirect(0, "r".repeat(79) + "!");
        most.authorize("client_id=x&redirect_uri=" + "r".repeat(79) + "!");
        most.answered("all 80 bytes count", 302, 1, "r".repeat(79) + "!?error=invalid_request");
        most.authorize("client_id=x&redirect_uri=" + "r".repeat(80));
        most.answered("the 80th is another", 400, 1, 0);
    }

    private static void mayAskAndRefresh() {
        Doc.says("SCOPES that it may ask for; whether it may REFRESH.");
        String[] words = {"r", "w", "a"};
        for (int set = 0; set < 8; set++) {
            Kit kit = Kit.world();
            kit.client("n", null, set, true);
            kit.redirect(2, "n");
            for (int k = 0; k < 3; k++) {
                kit.ask("n", "&scope=" + words[k]);
                Kit.due("SCOPE " + k + " of " + set, (set >> k & 1) == 1 ? 200 : 302, kit.status());
            }
        }
        for (int refresh = 0; refresh < 2; refresh++) {
            Kit kit = new Kit();
            kit.scope("r");
            kit.client("x", null, 1, refresh == 1);
            kit.redirect(0, "u:v");
            kit.start(1, 1, 5);
            Kit.due("token()", 200, kit.status());
            Kit.due("REFRESH tokens", refresh, kit.count(8));
            Kit.due("DICE that wait", 1 - refresh, kit.count(2));
        }
    }

    private static void signs() {
        Doc.says("HANDLES: the 22 signs of 16 bytes in base64url (RFC 4648, without =).");
        int[][] dice = {
            {0x00108310, 0x51872092, 0x8b30d38f, 0x41149351}, {0x55976196, 0x9b71d79f, 0x8218a392, 0x59a7a29a},
            {0xabb2dbaf, 0xc31cb3d3, 0x5db7e39e, 0xbbf3dfbf}, {0, 0, 0, 0}, {-1, -1, -1, -1}, {0, 0, 0, 1}, {0, 0, 0, 2},
            {0, 0, 0, 3}, {0, 0, 0, 0x80}, {0x80000000, 0, 0, 0}, {1, 0, 0, 0}, {0, 1, 0, 0}, {0, 0, 1, 0},
            {0, 0x80000000, 0x80000000, 0x80000000}};
        String[] some = {"ABCDEFGHIJKLMNOPQRSTUQ", "VZdhlptx15-CGKOSWaeimg", "q7Lbr8Mcs9Ndt-Oeu_Pfvw", "AAAAAAAAAAAAAAAAAAAAAA",
            "_____________________w", "AAAAAAAAAAAAAAAAAAAAAQ", "AAAAAAAAAAAAAAAAAAAAAg", "AAAAAAAAAAAAAAAAAAAAAw"};
        for (int i = 0; i < dice.length; i++) {
            Kit kit = Kit.world();
            kit.ask("x", "");
            int[] n = dice[i];
            kit.dice(n[0], n[1], n[2], n[3]);
            kit.consent(0, 1, 1, true);
            kit.answered("a HANDLE", 302, 0, "u:v?code=" + Kit.handle(n[0], n[1], n[2], n[3]));
            if (i < some.length) {
                kit.answered("a HANDLE", 302, 0, "u:v?code=" + some[i]);
            }
        }
    }

    private static void waiting() {
        Doc.says("They are taken from the DICE, numbers of 16 bytes that wait (at most 60):");
        Kit kit = Kit.world();
        kit.ask("x", "");
        kit.ask("x", "");
        for (int i = 1; i <= 60; i++) {
            Kit.due("die " + i, i, kit.dice(i, 0, 0, 0));
        }
        Kit.due("a 61st", Kit.NONE, kit.dice(61, 0, 0, 0));
        Kit.due("DICE that wait", 60, kit.count(2));
        kit.consent(0, 1, 1, true);
        Kit.due("behind one HANDLE", 59, kit.count(2));
        Kit.due("one more", 60, kit.dice(1, 0, 0, 0));
        Kit.due("and one more", Kit.NONE, kit.dice(62, 0, 0, 0));
        kit.consent(1, 1, 1, true);
        kit.answered("the second HANDLE", 302, 0, "u:v?code=" + Kit.handle(2, 0, 0, 0));
    }

    private static void firstNotMade() {
        Doc.says("the first one whose bytes no HANDLE was made of yet; those ahead of it are thrown away.");
        int[][] near = {{1, 2, 3, 5}, {1, 2, 4, 4}, {1, 3, 3, 4}, {2, 2, 3, 4}, {1, 2, 3, 4 | 1 << 31}, {4, 3, 2, 1}};
        for (int[] n : near) {
            Kit kit = Kit.world();
            kit.ask("x", "");
            kit.ask("x", "");
            for (int i = 0; i < 3; i++) {
                kit.dice(1, 2, 3, 4);
            }
            kit.dice(n[0], n[1], n[2], n[3]);
            kit.dice(9, 9, 9, 9);
            kit.consent(0, 1, 1, true);
            Kit.due("none is ahead of the first", 4, kit.count(2));
            kit.consent(1, 1, 1, true);
            kit.answered("the first that is new", 302, 0, "u:v?code=" + Kit.handle(n[0], n[1], n[2], n[3]));
            Kit.due("those ahead are thrown away, none behind", 1, kit.count(2));
        }
        Kit kit = Kit.world();
        kit.give("x", 3, 5, 1);
        kit.roll(1, 2, 2, 1, 3, 4);
        kit.redeem(1);
        Kit.due("a die of the CODE, of the ACCESS token, of the CODE: thrown away", 1, kit.count(2));
        Kit.due("the ACCESS token's", 5, kit.check(Kit.handle(2), 0));
        kit.roll(2, 3, 5);
        Kit.due("the REFRESH token's", 200, kit.turn(3, ""));
        Kit.due("those of the ACCESS and the REFRESH token: thrown away", 0, kit.count(2));
        Kit.due("the new ACCESS token's", 5, kit.check(Kit.handle(4), 0));
        kit.roll(6, 7);
        Kit.due("the new REFRESH token's", 200, kit.turn(5, ""));
    }

    private static void tooFew() {
        Doc.says("A call that needs more HANDLES than it finds so throws none away and makes none.");
        Kit kit = Kit.world();
        kit.start(1, 3, 5);
        kit.ask("x", "");
        kit.roll(1, 2, 3, 1);
        kit.throwing("consent() with none that is new", Kit.STATE, 0, () -> kit.consent(1, 1, 1, true));
        Kit.due("turning with none that is new", 503, kit.turn(3, ""));
        Kit.due("DICE that wait", 4, kit.count(2));
        kit.roll(7, 7, 1);
        Kit.due("turning with one that is new", 503, kit.turn(3, ""));
        Kit.due("DICE that wait", 7, kit.count(2));
        Kit.due("consent() with one that is new", 1, kit.consent(1, 1, 1, true));
        kit.answered("it was not made ahead", 302, 0, "u:v?code=" + Kit.handle(7));
        Kit.due("DICE that wait", 2, kit.count(2));
        kit.roll(8);
        Kit.due("redeeming with one that is new", 503, kit.redeem(7));
        Kit.due("DICE that wait", 3, kit.count(2));
        kit.roll(9);
        Kit.due("redeeming with two that are new", 200, kit.redeem(7));
        Kit.due("DICE that wait", 0, kit.count(2));
        Kit.due("the first is the ACCESS token's", 1, kit.check(Kit.handle(8), 0));
    }

    private static void now() {
        Doc.says("NOW is a time, 0 at first.");
        Kit kit = new Kit();
        Kit.due("NOW", 0, kit.count(10));
        Kit.due("NOW", 0, kit.tick(0));
        Kit.due("NOW", 1, kit.tick(1));
        Kit.due("NOW", 1, kit.count(10));
    }

    private static void livesAtFirst() {
        Doc.says("Three LIVES: of CODES (60 at first), ACCESS tokens (600), REFRESH tokens (10000).");
        int[] codes = {59, 60, 61};
        for (int late : codes) {
            Kit kit = Kit.world();
            kit.give("x", 3, 5, 1);
            kit.roll(2, 3);
            kit.tick(late);
            Kit.due("the CODE at " + late, late < 60 ? 0 : 2, kit.code(0, 0));
            Kit.due("redeemed at " + late, late < 60 ? 200 : 400, kit.redeem(1));
        }
        int[] access = {599, 600, 601};
        for (int late : access) {
            Kit kit = Kit.world();
            kit.start(1, 3, 5);
            kit.tick(late);
            Kit.due("checked at " + late, late < 600 ? 5 : 0, kit.check(Kit.handle(2), 0));
            Kit.due("good ones at " + late, late < 600 ? 1 : 0, kit.family(0, 4));
        }
        int[] refresh = {9999, 10000, 10001};
        for (int late : refresh) {
            Kit kit = Kit.world();
            kit.start(1, 3, 5);
            kit.roll(4, 5);
            kit.tick(late);
            Kit.due("turned at " + late, late < 10000 ? 200 : 400, kit.turn(3, ""));
        }
    }

    private static void goodAsLong() {
        Doc.says("What is given out at NOW is good as long as NOW is less than that time and its LIFE (as that was then).");
        for (int late = 4; late <= 6; late++) {
            Kit code = Kit.world();
            code.tick(1000);
            code.lives(5, 900, 900);
            code.give("x", 3, 5, 1);
            code.lives(900, 900, 900);
            code.roll(2, 3);
            code.tick(late);
            Kit.due("a CODE of 5 at " + late, late < 5 ? 200 : 400, code.redeem(1));

            Kit access = Kit.world();
            access.tick(1000);
            access.lives(900, 5, 900);
            access.start(1, 3, 5);
            access.lives(1, 1, 1);
            access.tick(late);
            Kit.due("an ACCESS token of 5 at " + late, late < 5 ? 5 : 0, access.check(Kit.handle(2), 0));

            Kit refresh = Kit.world();
            refresh.tick(1000);
            refresh.lives(900, 900, 5);
            refresh.start(1, 3, 5);
            refresh.lives(900, 900, 900);
            refresh.roll(4, 5, 6, 7);
            refresh.tick(late);
            Kit.due("a REFRESH token of 5 at " + late, late < 5 ? 200 : 400, refresh.turn(3, ""));
            refresh.tick(899);
            Kit.due("the one that came then", late < 5 ? 200 : 400, refresh.turn(5, ""));
        }
    }
}
