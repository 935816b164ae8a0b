/** What is a FORM, what is BAD, and which NAMES count (Terms, 1), as token() and authorize() read it. */
public final class FormTest {
    private static final String[] NAMES = {
        "response_type", "client_id", "redirect_uri", "scope", "state", "code_challenge", "code_challenge_method",
        "grant_type", "code", "code_verifier", "client_secret", "refresh_token", "token"
    };

    public static void main(String[] args) {
        noForms();
        forms();
        twoPieces();
        pieces();
        scopes();
        longTexts();
        Kit.close();
    }

    /** token() of a FORM with a grant_type, but without a client_id: 401; of what is BAD: 400. */
    private static void reads(Kit kit, String form, boolean good) {
        Kit.due("token() of '" + form + "'", good ? 401 : 400, kit.token(form));
        Kit.due("its error", good ? 6 : 1, kit.error());
        Kit.due("the TAPE behind it", 0, kit.count(11));
    }

    private static void noForms() {
        String[] behind = {
            "&a=%", "&a=%4", "&a=%4g", "&a=%g4", "&a=% 4", "&%=1", "&%4=1", "&a%4=1", "&a=%%20", "&a=%-1", "&a=%+1",
            "&a b=1", "&a=b c", "&a=\0", "&a=\u007f", "&a=\u0080", "&a=\u00ff", "&\n", "&a=%4G", "&a=%4`", "&a=%4@",
            "&a=%4/", "&a=%4:", "&a=%&41"
        };
        Kit kit = Kit.world();
        for (String more : behind) {
            reads(kit, "grant_type=x" + more, false);
        }
        reads(Kit.world(), " grant_type=x", false);
        reads(Kit.world(), "a=%zz&grant_type=x", false);
    }

    private static void forms() {
        String[] good = {
            "grant_type=x&a=%41%aF%Fa%00", "%67rant_type=x", "grant%5Ftype=x", "grant%5ftype=x", "&&grant_type=x&&",
            "grant_type=x&=&=a&a&a=", "grant_type==", "grant_type=!\"#$'()*,-./:;<>?@[\\]^`{|}~", "grant_type=x&a+b=c+d",
            "grant_type=%20", "grant_type=+"
        };
        Kit kit = Kit.world();
        for (String form : good) {
            reads(kit, form, true);
        }
        String[] without = {"", "&", "&&&", "grant_type", "grant_type=", "Grant_type=x", "grant_typ=x", "grant_typee=x",
            "+grant_type=x", "=grant_type=x"};
        for (String form : without) {
            reads(kit, form, false);
        }
        Kit values = Kit.world();
        values.authorize("client_id=%78&state=a=b+%2B%3d");
        values.answered("the first = ends the NAME", 302, 1, "u:v?error=invalid_request&state=a%3Db%20%2B%3D");
        values.authorize("client_id=x&state=%09%9A%a9%0F%f0%5B");
        values.answered("all digits in hex", 302, 1, "u:v?error=invalid_request&state=%09%9A%A9%0F%F0%5B");
        values.authorize("client_id=%58");
        values.answered("a byte in hex is that byte", 400, 6, 0);
    }

    private static void twoPieces() {
        for (String name : NAMES) {
            Kit kit = Kit.world();
            String start = name.equals("grant_type") ? "" : "grant_type=x&";
            reads(kit, start + name + "=1&" + name + "=1", false);
            reads(kit, start + name + "=1&" + name + "=2", false);
            reads(kit, start + name + "&a=b&" + name + "=1", false);
            reads(kit, start + name + "=1&" + name + "=", false);
            reads(kit, start + name + "=1&%" + Integer.toHexString(name.charAt(0)) + name.substring(1) + "=1", false);
        }
        Kit kit = Kit.world();
        reads(kit, "grant_type=x&a=1&a=1&error=1&error=1&owner&owner", true);
        Kit.due("authorize()", Kit.NONE, kit.authorize("client_id=x&token=1&token=1"));
        kit.answered("a NAME that counts elsewhere counts here", 400, 1, 0);
        Kit.due("revoke()", 400, kit.revoke("client_id=x&state&state"));
    }

    private static void pieces() {
        String nineteen = "&a".repeat(19);
        Kit kit = Kit.world();
        reads(kit, "grant_type=x" + nineteen, true);
        reads(kit, "grant_type=x" + nineteen + "&&&", true);
        reads(kit, "&&" + "grant_type=x" + nineteen.replace("&", "&&"), true);
        reads(kit, "grant_type=x" + nineteen + "&b", false);
        reads(kit, "grant_type=x" + nineteen + "&=", false);
        reads(kit, "&=".repeat(20) + "&grant_type=x", false);
        reads(kit, "&".repeat(1988) + "grant_type=x", true);
    }

    private static void scopes() {
        Kit kit = Kit.world();
        Kit.due("one WORD", 0, kit.ask("x", "&scope=r"));
        Kit.due("blanks all about", 1, kit.ask("x", "&scope=++r%20%20+w+"));
        Kit.due("a WORD twice", 2, kit.ask("x", "&scope=w+w"));
        Kit.due("blanks alone", 3, kit.ask("x", "&scope=+%20"));
        Kit.due("an unknown WORD", Kit.NONE, kit.ask("x", "&scope=r+R"));
        kit.answered("an unknown WORD", 302, 5, "u:v?error=invalid_scope");
        Kit.due("a WORD that goes on", Kit.NONE, kit.ask("x", "&scope=rr"));
        Kit.due("a tab is no blank", Kit.NONE, kit.ask("x", "&scope=r%09w"));
        Kit.due("byte 0 is no blank", Kit.NONE, kit.ask("x", "&scope=r%00"));
        Kit.due("a long unknown WORD", Kit.NONE, kit.ask("x", "&scope=" + "r".repeat(100)));
        kit.roll(1, 2, 3);
        Kit.due("r of the first", 0, kit.consent(0, 1, 1, true));
        Kit.due("both of the second", 1, kit.consent(1, 1, 3, true));
        Kit.due("w of the third", Kit.ILLEGAL, Kit.thrown(() -> kit.consent(2, 1, 3, true)));
        Kit.due("w of the third", 2, kit.consent(2, 1, 2, true));
        Kit.due("blanks are no SCOPES", Kit.ILLEGAL, Kit.thrown(() -> kit.consent(3, 1, 1, true)));
    }

    private static void longTexts() {
        Kit kit = Kit.world();
        String state = "!".repeat(1982);
        Kit.due("authorize() of 2000 bytes", Kit.NONE, kit.authorize("client_id=x&state=" + state));
        kit.answered("each byte takes three", 302, 1, 32 + 3 * 1982);
        Kit.due("the last byte", '1', kit.out(32 + 3 * 1982 - 1));
        Kit.due("one beyond", Kit.NONE, kit.out(32 + 3 * 1982));
        Kit.due("again has a part of it", 2000, kit.again(32, 2000));
        Kit.due("a value without = of 2000 bytes", 400, kit.token());

        Kit longest = new Kit();
        longest.client("x", null, 0, false);
        longest.redirect(0, "u".repeat(80));
        longest.authorize("client_id=x&response_type=-&state=" + "~+".repeat(983));
        longest.answered("a REDIRECT of 80", 302, 4, 80 + 1 + 31 + 7 + 4 * 983);
        Kit.due("the last sign", '0', longest.out(80 + 1 + 31 + 7 + 4 * 983 - 1));
    }
}
