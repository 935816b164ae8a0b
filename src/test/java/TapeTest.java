/** Promises 2 (feed), 3 (end), 4 (again). */
public final class TapeTest {
    public static void main(String[] args) {
        feeds();
        feedsBytesHighestFirst();
        ends();
        againTakesOut();
        againAtTheEdges();
        Kit.close();
    }

    private static void feeds() {
        Kit kit = new Kit();
        for (int i = 1; i <= 100; i++) {
            Kit.due("feed " + i, 20 * i, kit.feed(1, 2, 3, 4, 5));
        }
        Kit.due("feed with 2000", Kit.NONE, kit.feed(1, 2, 3, 4, 5));
        Kit.due("the TAPE then", 2000, kit.count(11));
        kit.end(1981);
        Kit.due("feed with 1981", Kit.NONE, kit.feed(1, 2, 3, 4, 5));
        Kit.due("the TAPE then", 1981, kit.count(11));
        kit.end(1980);
        Kit.due("feed with 1980", 2000, kit.feed(1, 2, 3, 4, 5));
    }

    private static void feedsBytesHighestFirst() {
        Kit kit = Kit.world();
        String state = "&state=";
        kit.put("client_id=x" + state);
        kit.end(18);
        kit.feed(0x41424344, 0x45464748, 0x494a4b4c, 0x4d4e4f50, 0x51525354);
        Kit.due("authorize() without response_type", Kit.NONE, kit.authorize());
        kit.answered("the bytes come in order", 302, 1, "u:v?error=invalid_request&state=ABCDEFGHIJKLMNOPQRST");
        kit.put("client_id=x&");
        kit.feed(0x73746174, 0x653d4142, 0xff414141, 0x41414141, 0x41414141);
        kit.authorize();
        kit.answered("byte 255 is no FORM's", 400, 1, 0);
    }

    private static void ends() {
        Kit kit = new Kit();
        Kit.due("end(0) of an empty TAPE", 1, kit.end(0) ? 1 : 0);
        Kit.due("end(1) of an empty TAPE", 0, kit.end(1) ? 1 : 0);
        kit.feed(0x72000000, 0, 0, 0, 0);
        Kit.due("end(21) of 20", 0, kit.end(21) ? 1 : 0);
        Kit.due("end(-1)", 0, kit.end(-1) ? 1 : 0);
        Kit.due("end(lowest)", 0, kit.end(Integer.MIN_VALUE) ? 1 : 0);
        Kit.due("end(highest)", 0, kit.end(Integer.MAX_VALUE) ? 1 : 0);
        Kit.due("the TAPE then", 20, kit.count(11));
        Kit.due("end(20) of 20", 1, kit.end(20) ? 1 : 0);
        Kit.due("the TAPE then", 20, kit.count(11));
        Kit.due("end(1) of 20", 1, kit.end(1) ? 1 : 0);
        Kit.due("the TAPE then", 1, kit.count(11));
        Kit.due("the first byte stays", 0, kit.scope());
        Kit.due("it is r", Kit.ILLEGAL, Kit.thrown(() -> kit.scope("r")));
        kit.put("rest");
        Kit.due("end(0)", 1, kit.end(0) ? 1 : 0);
        Kit.due("the TAPE then", 0, kit.count(11));
    }

    private static void againTakesOut() {
        Kit kit = Kit.world();
        kit.authorize("client_id=x&state=word");
        String out = "u:v?error=invalid_request&state=word";
        kit.answered("authorize()", 302, 1, out);
        Kit.due("again of state's VALUE", 4, kit.again(out.length() - 4, 4));
        Kit.due("a SCOPE of it", 3, kit.scope());
        Kit.due("it is word", Kit.ILLEGAL, Kit.thrown(() -> kit.scope("word")));
        kit.put("er");
        Kit.due("again comes behind", 4, kit.again(6, 2));
        Kit.due("a SCOPE of it", 4, kit.scope());
        Kit.due("it is erro", Kit.ILLEGAL, Kit.thrown(() -> kit.scope("erro")));
        Kit.due("OUT stays", out.length(), kit.outs());
        Kit.due("all of OUT", out.length(), kit.again(0, out.length()));
    }

    private static void againAtTheEdges() {
        Kit kit = Kit.world();
        Kit.due("again(0, 0) of an empty OUT", 0, kit.again(0, 0));
        Kit.due("again(0, 1) of an empty OUT", Kit.NONE, kit.again(0, 1));
        kit.authorize("client_id=x");
        kit.answered("authorize()", 302, 1, 25);
        Kit.due("again(25, 0)", 0, kit.again(25, 0));
        Kit.due("again(25, 1)", Kit.NONE, kit.again(25, 1));
        Kit.due("again(24, 2)", Kit.NONE, kit.again(24, 2));
        Kit.due("again(-1, 1)", Kit.NONE, kit.again(-1, 1));
        Kit.due("again(1, -1)", Kit.NONE, kit.again(1, -1));
        Kit.due("again(highest, highest)", Kit.NONE, kit.again(Integer.MAX_VALUE, Integer.MAX_VALUE));
        Kit.due("again(highest, 1)", Kit.NONE, kit.again(Integer.MAX_VALUE, 1));
        Kit.due("again(lowest, lowest)", Kit.NONE, kit.again(Integer.MIN_VALUE, Integer.MIN_VALUE));
        Kit.due("again(2, lowest)", Kit.NONE, kit.again(2, Integer.MIN_VALUE));
        Kit.due("the TAPE then", 0, kit.count(11));
        for (int i = 1; i <= 79; i++) {
            kit.again(0, 25);
        }
        Kit.due("again to 2000", 2000, kit.again(0, 25));
        Kit.due("again beyond", Kit.NONE, kit.again(0, 1));
        Kit.due("again of none with 2000", 2000, kit.again(0, 0));
        kit.end(1999);
        Kit.due("again of 2 with 1999", Kit.NONE, kit.again(0, 2));
        Kit.due("the TAPE then", 1999, kit.count(11));
        Kit.due("again of 1 with 1999", 2000, kit.again(0, 1));
    }
}
