/** Promises 4 and 5: field and subfield. */
public final class FieldsTest {
    public static void main(String[] args) {
        Checks checks = new Checks("FieldsTest");
        fields(checks);
        manyFields(checks);
        subfields(checks);
        manySubfields(checks);
        checks.end();
    }

    private static void fields(Checks checks) {
        CheckRules2 x = new CheckRules2();
        checks.due("field(0, 0, 0)", x.field(0, 0, 0), 1);
        checks.due("field(19, 999, MIN)", x.field(19, 999, Integer.MIN_VALUE), 2);
        checks.due("field(-1, 1, 1)", x.field(-1, 1, 1), 0);
        checks.due("field(20, 1, 1)", x.field(20, 1, 1), 0);
        checks.due("field(MAX, 1, 1)", x.field(Integer.MAX_VALUE, 1, 1), 0);
        checks.due("field(MIN, 1, 1)", x.field(Integer.MIN_VALUE, 1, 1), 0);
        checks.due("field(0, -1, 1)", x.field(0, -1, 1), 0);
        checks.due("field(0, 1000, 1)", x.field(0, 1000, 1), 0);
        checks.due("field(0, 5, MAX) behind refused ones", x.field(0, 5, Integer.MAX_VALUE), 3);
    }

    private static void manyFields(Checks checks) {
        CheckRules2 x = new CheckRules2();
        for (int i = 1; i <= 200; i++) {
            checks.due("field number " + i, x.field(i % 20, i, i), i);
        }
        checks.due("field 201", x.field(0, 1, 1), 0);
        checks.due("field 201 of another record", x.field(7, 1, 1), 0);
        checks.due("subfield of the 200th", x.subfield(200, 'a', 1), 1);
        checks.due("subfield of the 201st", x.subfield(201, 'a', 1), 0);
        Checks.tell(x, "hard not sum 200 = 200");
        checks.dueRun("the 200th field is in its record", x, 0, 1);
        checks.due("broken(0, 2)", x.broken(0, 2), 200);
    }

    private static void subfields(Checks checks) {
        CheckRules2 x = new CheckRules2();
        checks.due("no field yet", x.subfield(1, 'a', 1), 0);
        x.field(0, 1, 1);
        x.field(1, 1, 1);
        checks.due("first of 1", x.subfield(1, 'a', 1), 1);
        checks.due("first of 2", x.subfield(2, 'z', 1), 1);
        checks.due("second of 1, the same code", x.subfield(1, 'a', 1), 2);
        checks.due("third of 1", x.subfield(1, 'b', Integer.MIN_VALUE), 3);
        checks.due("field 0", x.subfield(0, 'a', 1), 0);
        checks.due("field -1", x.subfield(-1, 'a', 1), 0);
        checks.due("field 3", x.subfield(3, 'a', 1), 0);
        checks.due("field MAX", x.subfield(Integer.MAX_VALUE, 'a', 1), 0);
        checks.due("field MIN", x.subfield(Integer.MIN_VALUE, 'a', 1), 0);
        checks.due("code `", x.subfield(1, 'a' - 1, 1), 0);
        checks.due("code {", x.subfield(1, 'z' + 1, 1), 0);
        checks.due("code A", x.subfield(1, 'A', 1), 0);
        checks.due("code a of nine bits", x.subfield(1, 'a' + 256, 1), 0);
        checks.due("fourth of 1 behind refused ones", x.subfield(1, 'a', 1), 4);
    }

    private static void manySubfields(Checks checks) {
        CheckRules2 x = new CheckRules2();
        x.field(0, 1, 1);
        x.field(0, 2, 1);
        for (int i = 1; i <= 399; i++) {
            checks.due("subfield number " + i, x.subfield(1, 'a', i), i);
        }
        checks.due("the 400th", x.subfield(2, 'b', 1), 1);
        checks.due("the 401st", x.subfield(2, 'b', 1), 0);
        checks.due("the 401st of the other field", x.subfield(1, 'b', 1), 0);
        Checks.tell(x, "hard tag 2 sub b must and not tag 2 sub a must");
        checks.dueRun("the 400th is kept", x, 0, 0);
    }
}
