/** The edges that the sentences of Terms 1 name: the TAPE, FORMS, the NAMES that count and their VALUES. */
final class EdgesOfForms {
    private static final String[] NAMES = {
        "response_type", "client_id", "redirect_uri", "scope", "state", "code_challenge", "code_challenge_method",
        "grant_type", "code", "code_verifier", "client_secret", "refresh_token", "token"
    };
    private static final String LOCATION = "u:v?error=invalid_request";

    static void run() {
        tape();
        pieces();
        emptyPieces();
        nameAndValue();
        plus();
        hexDigits();
        bytesInHex();
        forItself();
        allElse();
        names();
        twoPieces();
        emptyInAuthorize();
        emptyInToken();
    }

    /** Each call reads the text as a FORM or as BAD; there is no CLIENT, so that a FORM is error 6. */
    private static void reads(String text, boolean form) {
        reads(text, text + "&grant_type=x", form);
    }

    private static void reads(String text, String forToken, boolean form) {
        Kit kit = new Kit();
        Kit.due("authorize() of '" + text + "'", Kit.NONE, kit.authorize(text));
        kit.answered("authorize() of '" + text + "'", 400, form ? 6 : 1, 0);
        Kit.due("revoke() of '" + text + "'", form ? 401 : 400, kit.revoke(text));
        kit.answered("revoke() of '" + text + "'", form ? 401 : 400, form ? 6 : 1, form ? 26 : 27);
        Kit.due("token() of '" + forToken + "'", form ? 401 : 400, kit.token(forToken));
        kit.answered("token() of '" + forToken + "'", form ? 401 : 400, form ? 6 : 1, form ? 26 : 27);
    }

    /** Behind client_id=x, the PIECES give a LOCATION that ends so. */
    private static void tells(String pieces, String end) {
        Kit kit = Kit.world();
        kit.authorize("client_id=x&" + pieces);
        kit.answered("authorize() with '" + pieces + "'", 302, 1, LOCATION + end);
    }

    static String sign(int b) {
        return String.valueOf((char) b);
    }

    static String escaped(int b) {
        return sign(b).matches("[A-Za-z0-9._~-]") ? sign(b) : String.format("%%%02X", b);
    }

    private static void tape() {
        Doc.says("TEXTS. The TAPE has at most 2000 bytes.");
        Kit kit = Kit.world();
        kit.put("client_id=x&state=" + "s".repeat(1980) + "-E");
        Kit.due("a TAPE of 2000", 2000, kit.count(11));
        Kit.due("feed with 2000", Kit.NONE, kit.feed(1, 1, 1, 1, 1));
        Kit.due("the TAPE then", 2000, kit.count(11));
        kit.authorize();
        kit.answered("a FORM of 2000 bytes", 302, 1, LOCATION.length() + 7 + 1982);
        Kit.due("its last byte but one", '-', kit.out(LOCATION.length() + 7 + 1980));
        Kit.due("its last byte", 'E', kit.out(LOCATION.length() + 7 + 1981));
        Kit.due("2000 bytes of OUT on an empty TAPE", 2000, kit.again(14, 2000));
        kit.end(0);
        Kit.due("2001 bytes of OUT on an empty TAPE", Kit.NONE, kit.again(13, 2001));
        Kit.due("the TAPE then", 0, kit.count(11));
        kit.again(0, 1981);
        Kit.due("feed with 1981", Kit.NONE, kit.feed(1, 1, 1, 1, 1));
        kit.end(1980);
        Kit.due("feed with 1980", 2000, kit.feed(1, 1, 1, 1, 1));
        kit.end(1979);
        Kit.due("feed with 1979", 1999, kit.feed(1, 1, 1, 1, 1));
    }

    private static void pieces() {
        Doc.says("A FORM: PIECES between &s (one that is empty is nothing), at most 20:");
        String[] kinds = {"a", "=", "a=", "=a", "%00=+"};
        for (String kind : kinds) {
            for (int many = 1; many <= 22; many++) {
                String text = (kind + "&").repeat(many);
                reads(text.substring(0, text.length() - 1), (kind + "&").repeat(many - 1) + "grant_type=x", many <= 20);
            }
        }
        reads("", "grant_type=x", true);
        StringBuilder all = new StringBuilder();
        for (String name : NAMES) {
            all.append(name.equals("client_id") ? "b" : name).append("=1&");
        }
        reads(all + "a&".repeat(7), all + "a&".repeat(7), true);
        reads(all + "a&".repeat(8), all + "a&".repeat(8), false);
    }

    private static void emptyPieces() {
        Doc.says("A FORM: PIECES between &s (one that is empty is nothing), at most 20:");
        reads("&", true);
        reads("&".repeat(20), true);
        reads("&".repeat(21), true);
        reads("&".repeat(1900), true);
        reads("&&" + "a&&&".repeat(20), "&&" + "a&&&".repeat(19) + "grant_type=x&&", true);
        reads("&&" + "a&&&".repeat(21), "&&" + "a&&&".repeat(20) + "grant_type=x&&", false);
        tells("&&&state=s&&", "&state=s");
    }

    private static void nameAndValue() {
        Doc.says("a NAME, then, from the first = on, a VALUE (empty without =).");
        tells("state", "");
        tells("state=", "");
        tells("state=a", "&state=a");
        tells("state==", "&state=%3D");
        tells("state=a=b", "&state=a%3Db");
        tells("state===", "&state=%3D%3D");
        tells("=state=a", "");
        tells("=&state=a", "&state=a");
        tells("state%3Da", "");
        tells("state%3D=a", "");
        tells("state=a%26b", "&state=a%26b");
        tells("state=a%3Db", "&state=a%3Db");
    }

    private static void plus() {
        Doc.says("In both a + stands for a blank,");
        tells("state=+", "&state=%20");
        tells("state=a++b", "&state=a%20%20b");
        tells("state=%2B+", "&state=%2B%20");
        tells("+state=a", "");
        tells("state+=a", "");
        tells("st+ate=a&state=b", "&state=b");
        reads("+", true);
        reads("+=+", true);
    }

    private static void hexDigits() {
        Doc.says("% and two of 0 to 9, A to F, a to f for that byte,");
        for (int b = 0; b < 256; b++) {
            boolean digit = sign(b).matches("[0-9A-Fa-f]");
            reads("a=%" + sign(b) + "0", digit);
            reads("a=%0" + sign(b), digit);
            reads("%" + sign(b) + "0=a", digit);
            reads("%0" + sign(b) + "=a", digit);
        }
        String[] cut = {"%", "%4", "a=%", "a=%4", "a%=41", "a%4=1", "a=%&41", "a=%4&1", "%&=", "a=%41%", "a=%%41", "a=%41%4"};
        for (String text : cut) {
            reads(text, false);
        }
        reads("a=%411", true);
        reads("a=%41%42", true);
    }

    private static void bytesInHex() {
        Doc.says("% and two of 0 to 9, A to F, a to f for that byte,");
        for (int b = 0; b < 256; b++) {
            String upper = String.format("%02X", b);
            String lower = String.format("%02x", b);
            tells("state=%" + upper, "&state=" + escaped(b));
            tells("state=.%" + lower + ".", "&state=." + escaped(b) + ".");
            tells("state=%" + upper.charAt(0) + lower.charAt(1) + "1", "&state=" + escaped(b) + "1");
        }
        tells("%73%74%61%74%65=%41", "&state=A");
        tells("%73tat%65=%4a", "&state=J");
        tells("%53tate=%41", "");
    }

    private static void forItself() {
        Doc.says("any other byte of 33 to 126 for itself;");
        for (int b = 33; b <= 126; b++) {
            if (b == '&' || b == '+' || b == '%') {
                continue;
            }
            tells("state=" + sign(b), "&state=" + escaped(b));
            reads(sign(b), true);
            reads("a" + sign(b) + "=" + sign(b), true);
        }
    }

    private static void allElse() {
        Doc.says("all else is no FORM.");
        for (int b = 0; b < 256; b++) {
            if (b == 33) {
                b = 127;
            }
            reads(sign(b), false);
            reads("a=" + sign(b), false);
            reads("a" + sign(b) + "=", false);
            reads(sign(b) + "&a", false);
            reads("a&" + sign(b), false);
        }
    }

    private static void names() {
        Doc.says("NAMES that count: response_type, client_id, redirect_uri, scope, state, code_challenge, "
            + "code_challenge_method, grant_type, code, code_verifier, client_secret, refresh_token, token.");
        for (String name : NAMES) {
            String last = name.substring(0, name.length() - 1);
            String[] others = {last, name + "s", name.toUpperCase(), name.substring(1), last + "%00", name + "+", "+" + name,
                name + "%3D", last + last.charAt(0), "owner", "error"};
            for (String other : others) {
                reads(other + "=1&" + other + "=1", true);
            }
            reads(name + "=1&" + name + "=1", false);
        }
    }

    private static void twoPieces() {
        Doc.says("A FORM with two PIECES of one such NAME is BAD, as what is no FORM.");
        for (String name : NAMES) {
            String value = name.equals("client_id") ? "=" : "=1";
            String grant = name.equals("grant_type") ? "" : "&grant_type=x";
            reads(name + value, name + value + grant, true);
            reads(name + "=1&" + name + "=2", false);
            reads(name + "=1&a&" + name + "=1", false);
            reads(name + "=1&" + name + "=", false);
            reads(name + "&" + name + "=1", false);
            reads(name + "&" + name, false);
            reads(name + "=&" + name + "=&" + name + "=", false);
            reads(name + "=1&%" + Integer.toHexString(name.charAt(0)) + name.substring(1) + "=1", false);
        }
        reads("client_secret=1&refresh_token=1&token=1&code=1&state=1", true);
    }

    private static void emptyInAuthorize() {
        Doc.says("A VALUE that is empty counts as not there.");
        Kit kit = Kit.world();
        String rest = "response_type=code" + Kit.S256;
        kit.authorize("client_id=&" + rest);
        kit.answered("an empty client_id", 400, 6, 0);
        Kit.due("an empty redirect_uri", 0, kit.authorize("client_id=x&redirect_uri=&" + rest));
        Kit.due("an empty scope", 1, kit.authorize("client_id=x&scope=&" + rest));
        Kit.due("all that x may ask for", Kit.STATE, Kit.thrown(() -> kit.consent(1, 1, 3, true)));
        Kit.due("an empty state", 2, kit.authorize("client_id=x&state=&" + rest));
        kit.consent(2, 1, 1, false);
        kit.answered("an empty state", 302, 3, "u:v?error=access_denied");
        kit.authorize("client_id=x&response_type=" + Kit.S256);
        kit.answered("an empty response_type", 302, 1, 25);
        kit.authorize("client_id=x&response_type=code&code_challenge=&code_challenge_method=S256");
        kit.answered("an empty code_challenge", 302, 1, 25);
        kit.authorize("client_id=x&response_type=code&code_challenge=" + Kit.CHALLENGE + "&code_challenge_method=");
        kit.answered("an empty code_challenge_method", 302, 1, 25);
    }

    private static void emptyInToken() {
        Doc.says("A VALUE that is empty counts as not there.");
        Kit kit = Kit.world();
        kit.token("grant_type=&client_id=z");
        kit.answered("an empty grant_type", 400, 1, 27);
        kit.token("grant_type=x&client_id=");
        kit.answered("an empty client_id", 401, 6, 26);
        kit.token("grant_type=x&client_id=x&client_secret=");
        kit.answered("an empty client_secret of a PUBLIC one", 400, 8, 34);
        kit.token("grant_type=x&client_id=y&client_secret=");
        kit.answered("an empty client_secret of a CONFIDENTIAL one", 401, 6, 26);
        String start = "grant_type=authorization_code&client_id=x";
        kit.token(start + "&code=&redirect_uri=u:v&code_verifier=" + Kit.VERIFIER);
        kit.answered("an empty code", 400, 1, 27);
        kit.token(start + "&code=a&redirect_uri=&code_verifier=" + Kit.VERIFIER);
        kit.answered("an empty redirect_uri", 400, 1, 27);
        kit.token(start + "&code=a&redirect_uri=u:v&code_verifier=");
        kit.answered("an empty code_verifier", 400, 1, 27);
        kit.token("grant_type=refresh_token&client_id=x&refresh_token=");
        kit.answered("an empty refresh_token", 400, 1, 27);
        kit.revoke("client_id=x&token=");
        kit.answered("an empty token", 400, 1, 27);
        kit.start(1, 3, 5);
        kit.roll(4, 5);
        Kit.due("an empty scope", 200, kit.turn(3, "&scope="));
        Kit.due("the FAMILY's SCOPES", 5, kit.check(Kit.handle(4), 1));
    }
}
