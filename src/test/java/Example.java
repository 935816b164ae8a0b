/** One grant, from the owner's consent to a REFRESH token that is shown twice; README.md shows it, too. */
public final class Example {
    public static void main(String[] args) {
        GrantServer server = new GrantServer();
        put(server, "read");
        int read = server.scope();
        put(server, "web");
        int web = server.client(false, 1 << read, true);
        put(server, "https://web.example/back");
        server.redirect(web);

        put(server, "client_id=web&response_type=code&state=7&code_challenge_method=S256"
            + "&code_challenge=E9Melhoa2OwvFrEMTJguCHaoeK1t8URWbuGJSstw-cM");
        int request = server.authorize();
        server.dice(1, 2, 3, 4);
        server.consent(request, 4711, 1 << read, true);
        System.out.println(server.status() + " " + out(server));

        server.dice(5, 6, 7, 8);
        server.dice(9, 10, 11, 12);
        put(server, "grant_type=authorization_code&client_id=web&redirect_uri=https://web.example/back"
            + "&code=AAAAAQAAAAIAAAADAAAABA&code_verifier=dBjftJeZ4CVP-mB92K27uhbUJU1p1r_wW1gFWFOEjXk");
        System.out.println(server.token() + " " + out(server));
        put(server, "AAAABQAAAAYAAAAHAAAACA");
        System.out.println("owner " + server.check(read));

        String turn = "grant_type=refresh_token&client_id=web&refresh_token=AAAACQAAAAoAAAALAAAADA";
        server.dice(13, 14, 15, 16);
        server.dice(17, 18, 19, 20);
        put(server, turn);
        System.out.println(server.token() + " " + out(server));
        put(server, turn);
        System.out.println(server.token() + " " + out(server));
        System.out.println("taken back: " + server.count(9));
    }

    /** Texts go to the TAPE by twenty bytes, the highest of each number first, and are cut to their length. */
    static void put(GrantServer server, String text) {
        for (int i = 0; i < text.length(); i += 20) {
            int[] n = new int[5];
            for (int k = 0; k < 20; k++) {
                n[k / 4] = n[k / 4] << 8 | (i + k < text.length() ? text.charAt(i + k) : 0);
            }
            server.feed(n[0], n[1], n[2], n[3], n[4]);
        }
        server.end(text.length());
    }

    static String out(GrantServer server) {
        StringBuilder text = new StringBuilder();
        for (int i = 0; i < server.outs(); i++) {
            text.append((char) server.out(i));
        }
        return text.toString();
    }
}
