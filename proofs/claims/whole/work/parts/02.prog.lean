/-! the program as tables: written by wip/whole/gen.py out of the printed names -/
abbrev Op : Type := Instr × Nat × Nat × Nat
abbrev Kd : Type := Nat ⊕ (List Nat ⊕ (Nat × List (Nat × Nat × Nat)))
def NC : Nat := 83
def shL : List Kd := [
  .inr (.inr (10, [(0, 1, 0), (0, 20, 0), (0, 38, 0), (0, 53, 0), (2, 4, 0), (1, 5, 0)])),
  .inr (.inr (0, [(0, 2, 0), (0, 4, 0), (0, 6, 0), (0, 9, 0), (0, 12, 0), (0, 16, 0), (1, 6, 0), (1, 7, 0)])),
  .inr (.inr (8, [(1, 0, 0), (0, 3, 0), (1, 2, 0)])),
  .inl 41,
  .inr (.inr (8, [(1, 0, 0), (0, 5, 0), (1, 2, 0)])),
  .inl 41,
  .inr (.inr (6, [(0, 7, 0), (0, 8, 0)])),
  .inl 36,
  .inl 6,
  .inr (.inr (2, [(0, 10, 0), (0, 11, 0), (1, 2, 0)])),
  .inl 12,
  .inl 12,
  .inr (.inr (1, [(0, 13, 0), (0, 14, 0), (0, 15, 0), (1, 3, 0)])),
  .inl 8,
  .inl 8,
  .inl 8,
  .inr (.inr (4, [(0, 17, 0), (0, 18, 0), (0, 19, 0), (1, 3, 0)])),
  .inl 8,
  .inl 8,
  .inl 8,
  .inr (.inr (3, [(0, 1, 0), (0, 21, 0), (0, 36, 0), (0, 37, 0), (2, 4, 0), (1, 5, 0), (1, 6, 0), (1, 7, 0), (3, 8, 108), (3, 9, 109)])),
  .inr (.inr (7, [(0, 22, 0), (0, 25, 0), (0, 28, 0), (0, 30, 0), (0, 31, 0), (0, 32, 0), (0, 33, 0), (0, 35, 0), (2, 8, 0), (0, 34, 0), (1, 10, 0)])),
  .inr (.inr (6, [(0, 23, 0), (0, 24, 0)])),
  .inl 36,
  .inl 6,
  .inr (.inr (2, [(0, 26, 0), (0, 27, 0), (1, 2, 0)])),
  .inl 12,
  .inl 12,
  .inr (.inr (9, [(0, 29, 0), (1, 1, 0), (1, 2, 0)])),
  .inl 6,
  .inl 12,
  .inl 24,
  .inl 24,
  .inl 24,
  .inl 6,
  .inl 0,
  .inl 256,
  .inl 216,
  .inr (.inr (7, [(0, 39, 0), (0, 42, 0), (0, 45, 0), (0, 47, 0), (0, 48, 0), (0, 49, 0), (0, 50, 0), (0, 52, 0), (2, 8, 0), (0, 51, 0), (1, 10, 0)])),
  .inr (.inr (6, [(0, 40, 0), (0, 41, 0)])),
  .inl 36,
  .inl 6,
  .inr (.inr (2, [(0, 43, 0), (0, 44, 0), (1, 2, 0)])),
  .inl 12,
  .inl 12,
  .inr (.inr (9, [(0, 46, 0), (1, 1, 0), (1, 2, 0)])),
  .inl 6,
  .inl 12,
  .inl 24,
  .inl 24,
  .inl 24,
  .inl 6,
  .inl 864,
  .inr (.inl [54, 56, 58, 60]),
  .inr (.inr (5, [(0, 55, 0), (1, 1, 0), (1, 2, 0)])),
  .inl 60,
  .inr (.inr (5, [(0, 57, 0), (1, 1, 0), (1, 2, 0)])),
  .inl 60,
  .inr (.inr (5, [(0, 59, 0), (1, 1, 0), (1, 2, 0)])),
  .inl 60,
  .inr (.inr (5, [(0, 61, 0), (1, 1, 0), (1, 2, 0)])),
  .inl 60,
  .inr (.inr (11, [(0, 63, 0), (0, 64, 0), (0, 65, 0), (0, 66, 0), (1, 4, 0), (0, 67, 0), (0, 68, 0), (0, 69, 0), (0, 70, 0), (1, 9, 0), (0, 71, 0), (1, 11, 0), (0, 72, 0), (1, 13, 0), (1, 14, 0), (1, 15, 0), (1, 16, 0), (0, 73, 0), (0, 74, 0), (0, 75, 0), (0, 76, 0), (0, 77, 0), (0, 78, 0), (0, 79, 0), (1, 24, 0), (0, 80, 0), (0, 81, 0), (1, 27, 0), (0, 82, 0)])),
  .inl 4,
  .inl 4,
  .inl 240,
  .inl 60,
  .inl 84,
  .inl 2,
  .inl 6,
  .inl 36,
  .inl 24,
  .inl 24,
  .inl 6,
  .inl 36,
  .inl 36,
  .inl 12,
  .inl 144,
  .inl 864,
  .inl 24,
  .inl 24,
  .inl 240,
  .inl 24]
def sh (c : Nat) : Option Kd := shL[c]?
-- 0: X0_textOf
def bt_0 : List (List Op × Nat) := [
  ([(.iload_n 1, 1, 0, 0), (.ifCond .ne 10, 1, 0, 0), (.aload_n 0, 0, 0, 0), (.getfield 14, 0, 0, 0), (.goto 7, 2, 0, 0)], 0),
  ([(.aload_n 0, 0, 0, 0), (.getfield 20, 0, 1, 0)], 2),
  ([(.areturn, 0, 0, 0)], 0)]
-- 1: X0_parseBlocks
def bt_1 : List (List Op × Nat) := [
  ([(.aload_n 0, 0, 0, 0), (.getfield 26, 0, 2, 0), (.invokevirtual 58, 31, 0, 6), (.aload_n 0, 0, 0, 0), (.aload_n 0, 0, 0, 0), (.invokevirtual 61, 2, 0, 0), (.putfield 51, 0, 6, 0), (.aload_n 0, 0, 0, 0), (.getfield 51, 0, 6, 0), (.iconst (-1), 1, 1, 0), (.if_icmp .eq 10, 1, 0, 0), (.aload_n 0, 0, 0, 0), (.getfield 26, 0, 2, 0), (.invokevirtual 58, 31, 0, 6)], 1),
  ([(.return_, 0, 0, 0)], 0)]
-- 2: X0_placeBlocks
def bt_2 : List (List Op × Nat) := [
  ([(.iconst 0, 0, 0, 0), (.istore_n 1, 1, 0, 0), (.iconst 0, 0, 0, 0), (.istore_n 2, 2, 0, 0)], 1),
  ([(.iload_n 2, 2, 0, 0), (.aload_n 0, 0, 0, 0), (.getfield 14, 0, 0, 0), (.getfield 65, 8, 2, 0), (.if_icmp .ge 74, 5, 0, 0), (.aload_n 0, 0, 0, 0), (.getfield 14, 0, 0, 0), (.getfield 68, 8, 1, 0), (.iload_n 2, 2, 0, 0), (.iaload, 0, 0, 0), (.istore_n 3, 3, 0, 0), (.iload_n 3, 3, 0, 0), (.bipush 59, 59, 0, 0), (.if_icmp .ne 14, 2, 0, 0), (.iload_n 1, 1, 0, 0), (.iconst 5, 5, 0, 0), (.if_icmp .ge 9, 2, 0, 0), (.iinc 1 1, 1, 1, 0), (.goto 41, 4, 0, 0)], 0),
  ([(.iload_n 3, 3, 0, 0), (.invokestatic 72, 5, 1, 0), (.ifCond .eq 32, 3, 0, 0), (.aload_n 0, 0, 0, 0), (.getfield 26, 0, 2, 0), (.getfield 76, 6, 1, 0), (.iload_n 1, 1, 0, 0), (.iaload, 0, 0, 0), (.bipush 6, 6, 0, 0), (.if_icmp .ge 18, 3, 0, 0), (.aload_n 0, 0, 0, 0), (.getfield 26, 0, 2, 0), (.iload_n 1, 1, 0, 0), (.iload_n 3, 3, 0, 0), (.bipush 48, 48, 0, 0), (.isub, 0, 0, 0), (.invokevirtual 79, 33, 2, 6), (.goto 5, 4, 0, 0)], 0),
  ([(.iload_n 2, 2, 0, 0), (.ireturn, 0, 0, 0)], 0),
  ([(.iinc 2 1, 2, 1, 0), (.goto (-79), 1, 0, 0)], 0),
  ([(.iconst (-1), 1, 1, 0), (.ireturn, 0, 0, 0)], 0)]
-- 3: X0_parseOrders
def bt_3 : List (List Op × Nat) := [
  ([(.aload_n 0, 0, 0, 0), (.getfield 33, 0, 3, 0), (.iconst 0, 0, 0, 0), (.putfield 83, 2, 2, 0), (.aload_n 0, 0, 0, 0), (.aload_n 0, 0, 0, 0), (.invokevirtual 86, 4, 0, 0), (.putfield 55, 0, 7, 0), (.aload_n 0, 0, 0, 0), (.getfield 55, 0, 7, 0), (.iconst (-1), 1, 1, 0), (.if_icmp .eq 11, 1, 0, 0), (.aload_n 0, 0, 0, 0), (.getfield 33, 0, 3, 0), (.iconst 0, 0, 0, 0), (.putfield 83, 2, 2, 0)], 1),
  ([(.return_, 0, 0, 0)], 0)]
-- 4: X0_placeOrders
def bt_4 : List (List Op × Nat) := [
  ([(.aload_n 0, 0, 0, 0), (.getfield 20, 0, 1, 0), (.getfield 65, 8, 2, 0), (.istore_n 1, 1, 0, 0), (.iconst 0, 0, 0, 0), (.istore_n 2, 2, 0, 0)], 1),
  ([(.iload_n 2, 2, 0, 0), (.iload_n 1, 1, 0, 0), (.if_icmp .ge 149, 6, 0, 0), (.aload_n 0, 0, 0, 0), (.getfield 20, 0, 1, 0), (.getfield 68, 8, 1, 0), (.iload_n 2, 2, 0, 0), (.iaload, 0, 0, 0), (.istore_n 3, 3, 0, 0), (.iload_n 2, 2, 0, 0), (.iconst 3, 3, 0, 0), (.irem, 0, 0, 0), (.istore 4, 4, 0, 0), (.iload 4, 4, 0, 0), (.ifCond .ne 49, 2, 0, 0), (.iload_n 3, 3, 0, 0), (.bipush 97, 97, 0, 0), (.if_icmp .lt 43, 2, 0, 0), (.iload_n 3, 3, 0, 0), (.bipush 120, 120, 0, 0), (.if_icmp .gt 37, 2, 0, 0), (.aload_n 0, 0, 0, 0), (.getfield 33, 0, 3, 0), (.getfield 83, 2, 2, 0), (.bipush 12, 12, 0, 0), (.if_icmp .ge 25, 2, 0, 0), (.aload_n 0, 0, 0, 0), (.getfield 33, 0, 3, 0), (.getfield 89, 2, 0, 0), (.aload_n 0, 0, 0, 0), (.getfield 33, 0, 3, 0), (.getfield 83, 2, 2, 0), (.iload_n 3, 3, 0, 0), (.bipush 97, 97, 0, 0), (.isub, 0, 0, 0), (.iastore, 0, 0, 0), (.goto 77, 5, 0, 0)], 0),
  ([(.iload 4, 4, 0, 0), (.iconst 1, 1, 0, 0), (.if_icmp .ne 57, 3, 0, 0), (.iload_n 3, 3, 0, 0), (.invokestatic 72, 5, 1, 0), (.ifCond .eq 50, 3, 0, 0), (.aload_n 0, 0, 0, 0), (.getfield 33, 0, 3, 0), (.getfield 83, 2, 2, 0), (.bipush 12, 12, 0, 0), (.if_icmp .ge 38, 3, 0, 0), (.aload_n 0, 0, 0, 0), (.getfield 33, 0, 3, 0), (.getfield 92, 2, 1, 0), (.aload_n 0, 0, 0, 0), (.getfield 33, 0, 3, 0), (.getfield 83, 2, 2, 0), (.iload_n 3, 3, 0, 0), (.bipush 48, 48, 0, 0), (.isub, 0, 0, 0), (.iastore, 0, 0, 0), (.aload_n 0, 0, 0, 0), (.getfield 33, 0, 3, 0), (.dup, 0, 0, 0), (.getfield 83, 2, 2, 0), (.iconst 1, 1, 0, 0), (.iadd, 0, 0, 0), (.putfield 83, 2, 2, 0), (.goto 17, 5, 0, 0)], 0),
  ([(.iload 4, 4, 0, 0), (.iconst 2, 2, 0, 0), (.if_icmp .ne 9, 4, 0, 0), (.iload_n 3, 3, 0, 0), (.bipush 59, 59, 0, 0), (.if_icmp .eq 5, 5, 0, 0)], 4),
  ([(.iload_n 2, 2, 0, 0), (.ireturn, 0, 0, 0)], 0),
  ([(.iinc 2 1, 2, 1, 0), (.goto (-148), 1, 0, 0)], 0),
  ([(.iload_n 1, 1, 0, 0), (.ifCond .eq 10, 7, 0, 0), (.iload_n 1, 1, 0, 0), (.iconst 3, 3, 0, 0), (.irem, 0, 0, 0), (.iconst 2, 2, 0, 0), (.if_icmp .ne 7, 8, 0, 0)], 7),
  ([(.iconst (-1), 1, 1, 0), (.goto 4, 9, 0, 0)], 0),
  ([(.iload_n 1, 1, 0, 0)], 9),
  ([(.ireturn, 0, 0, 0)], 0)]
-- 5: X0_isFigure
def bt_5 : List (List Op × Nat) := [
  ([(.iload_n 0, 0, 0, 0), (.bipush 49, 49, 0, 0), (.if_icmp .lt 13, 1, 0, 0), (.iload_n 0, 0, 0, 0), (.bipush 57, 57, 0, 0), (.if_icmp .gt 7, 1, 0, 0), (.iconst 1, 1, 0, 0), (.goto 4, 2, 0, 0)], 0),
  ([(.iconst 0, 0, 0, 0)], 2),
  ([(.ireturn, 1, 0, 0)], 0)]
-- 6: X1_mayBe
def bt_6 : List (List Op × Nat) := [
  ([(.iload_n 0, 0, 0, 0), (.iconst 2, 2, 0, 0), (.invokestatic 21, 93, 2, 1), (.ifCond .ne 24, 1, 0, 0), (.iload_n 1, 1, 0, 0), (.bipush 23, 23, 0, 0), (.invokestatic 21, 93, 2, 1), (.ifCond .ne 15, 1, 0, 0), (.iload_n 2, 2, 0, 0), (.iconst 5, 5, 0, 0), (.invokestatic 21, 93, 2, 1), (.ifCond .ne 7, 1, 0, 0), (.iconst 1, 1, 0, 0), (.goto 4, 2, 0, 0)], 0),
  ([(.iconst 0, 0, 0, 0)], 2),
  ([(.ireturn, 1, 0, 0)], 0)]
-- 7: X1_append
def bt_7 : List (List Op × Nat) := [
  ([(.aload_n 0, 0, 0, 0), (.getfield 25, 1, 3, 0), (.bipush 8, 8, 0, 0), (.if_icmp .ge 43, 1, 0, 0), (.aload_n 0, 0, 0, 0), (.getfield 9, 1, 0, 0), (.aload_n 0, 0, 0, 0), (.getfield 25, 1, 3, 0), (.iload_n 1, 1, 0, 0), (.iastore, 0, 0, 0), (.aload_n 0, 0, 0, 0), (.getfield 15, 1, 1, 0), (.aload_n 0, 0, 0, 0), (.getfield 25, 1, 3, 0), (.iload_n 2, 2, 0, 0), (.iastore, 0, 0, 0), (.aload_n 0, 0, 0, 0), (.getfield 18, 1, 2, 0), (.aload_n 0, 0, 0, 0), (.getfield 25, 1, 3, 0), (.iload_n 3, 3, 0, 0), (.iastore, 0, 0, 0), (.aload_n 0, 0, 0, 0), (.dup, 0, 0, 0), (.getfield 25, 1, 3, 0), (.iconst 1, 1, 0, 0), (.iadd, 0, 0, 0), (.putfield 25, 1, 3, 0)], 1),
  ([(.return_, 0, 0, 0)], 0)]
-- 8: X2_become
def bt_8 : List (List Op × Nat) := [
  ([(.aload_n 1, 1, 0, 0), (.getfield 9, 2, 0, 0), (.iconst 0, 0, 0, 0), (.aload_n 0, 0, 0, 0), (.getfield 9, 2, 0, 0), (.iconst 0, 0, 0, 0), (.bipush 12, 12, 0, 0), (.invokestatic 18, 999, 5, 0), (.aload_n 1, 1, 0, 0), (.getfield 15, 2, 1, 0), (.iconst 0, 0, 0, 0), (.aload_n 0, 0, 0, 0), (.getfield 15, 2, 1, 0), (.iconst 0, 0, 0, 0), (.bipush 12, 12, 0, 0), (.invokestatic 18, 999, 5, 0), (.aload_n 0, 0, 0, 0), (.aload_n 1, 1, 0, 0), (.getfield 24, 2, 2, 0), (.putfield 24, 2, 2, 0), (.return_, 0, 0, 0)], 0)]
-- 9: X3_findCover
def bt_9 : List (List Op × Nat) := [
  ([(.aload_n 0, 0, 0, 0), (.iconst (-1), 1, 1, 0), (.putfield 31, 3, 5, 0), (.aload_n 0, 0, 0, 0), (.iconst (-1), 1, 1, 0), (.putfield 35, 3, 7, 0), (.iconst 0, 0, 0, 0), (.istore_n 1, 1, 0, 0)], 1),
  ([(.iload_n 1, 1, 0, 0), (.bipush 6, 6, 0, 0), (.if_icmp .ge 72, 3, 0, 0), (.aload_n 0, 0, 0, 0), (.getfield 14, 3, 1, 0), (.aload_n 0, 0, 0, 0), (.getfield 27, 3, 0, 0), (.sipush 255, 255, 0, 0), (.invokevirtual 38, 41, 2, 7), (.aload_n 0, 0, 0, 0), (.getfield 14, 3, 1, 0), (.getfield 42, 7, 2, 0), (.iconst 2, 2, 0, 0), (.iconst 0, 0, 0, 0), (.iload_n 1, 1, 0, 0), (.invokevirtual 46, 51, 3, 9), (.aload_n 0, 0, 0, 0), (.getfield 14, 3, 1, 0), (.invokevirtual 52, 42, 0, 7), (.aload_n 0, 0, 0, 0), (.getfield 14, 3, 1, 0), (.getfield 55, 7, 4, 0), (.bipush 23, 23, 0, 0), (.iaload, 0, 0, 0), (.istore_n 2, 2, 0, 0), (.iload_n 2, 2, 0, 0), (.aload_n 0, 0, 0, 0), (.getfield 35, 3, 7, 0), (.if_icmp .le 13, 2, 0, 0), (.aload_n 0, 0, 0, 0), (.iload_n 2, 2, 0, 0), (.putfield 35, 3, 7, 0), (.aload_n 0, 0, 0, 0), (.iload_n 1, 1, 0, 0), (.putfield 31, 3, 5, 0)], 2),
  ([(.iinc 1 1, 1, 1, 0), (.goto (-72), 1, 0, 0)], 0),
  ([(.return_, 0, 0, 0)], 0)]
-- 10: X3_findSwap
def bt_10 : List (List Op × Nat) := [
  ([(.aload_n 0, 0, 0, 0), (.iconst (-1), 1, 1, 0), (.putfield 31, 3, 5, 0), (.aload_n 0, 0, 0, 0), (.iconst (-1), 1, 1, 0), (.putfield 58, 3, 6, 0), (.aload_n 0, 0, 0, 0), (.iconst (-1), 1, 1, 0), (.putfield 35, 3, 7, 0), (.iconst 0, 0, 0, 0), (.istore_n 1, 1, 0, 0)], 1),
  ([(.iload_n 1, 1, 0, 0), (.bipush 6, 6, 0, 0), (.if_icmp .ge 92, 5, 0, 0), (.iload_n 1, 1, 0, 0), (.iconst 1, 1, 0, 0), (.iadd, 0, 0, 0), (.istore_n 2, 2, 0, 0)], 2),
  ([(.iload_n 2, 2, 0, 0), (.bipush 6, 6, 0, 0), (.if_icmp .ge 76, 4, 0, 0), (.aload_n 0, 0, 0, 0), (.getfield 14, 3, 1, 0), (.aload_n 0, 0, 0, 0), (.getfield 27, 3, 0, 0), (.sipush 255, 255, 0, 0), (.invokevirtual 38, 41, 2, 7), (.aload_n 0, 0, 0, 0), (.getfield 14, 3, 1, 0), (.getfield 61, 7, 0, 0), (.iload_n 1, 1, 0, 0), (.iload_n 2, 2, 0, 0), (.invokevirtual 65, 36, 2, 6), (.aload_n 0, 0, 0, 0), (.getfield 14, 3, 1, 0), (.invokevirtual 52, 42, 0, 7), (.aload_n 0, 0, 0, 0), (.getfield 14, 3, 1, 0), (.getfield 55, 7, 4, 0), (.bipush 23, 23, 0, 0), (.iaload, 0, 0, 0), (.istore_n 3, 3, 0, 0), (.iload_n 3, 3, 0, 0), (.aload_n 0, 0, 0, 0), (.getfield 35, 3, 7, 0), (.if_icmp .le 18, 3, 0, 0), (.aload_n 0, 0, 0, 0), (.iload_n 3, 3, 0, 0), (.putfield 35, 3, 7, 0), (.aload_n 0, 0, 0, 0), (.iload_n 1, 1, 0, 0), (.putfield 31, 3, 5, 0), (.aload_n 0, 0, 0, 0), (.iload_n 2, 2, 0, 0), (.putfield 58, 3, 6, 0)], 3),
  ([(.iinc 2 1, 2, 1, 0), (.goto (-76), 2, 0, 0)], 0),
  ([(.iinc 1 1, 1, 1, 0), (.goto (-92), 1, 0, 0)], 0),
  ([(.return_, 0, 0, 0)], 0)]
-- 11: X3_findWait
def bt_11 : List (List Op × Nat) := [
  ([(.aload_n 0, 0, 0, 0), (.iconst (-1), 1, 1, 0), (.putfield 31, 3, 5, 0), (.aload_n 0, 0, 0, 0), (.bipush 13, 13, 0, 0), (.putfield 35, 3, 7, 0), (.iconst 0, 0, 0, 0), (.istore_n 2, 2, 0, 0)], 1),
  ([(.iload_n 2, 2, 0, 0), (.bipush 24, 24, 0, 0), (.if_icmp .ge 73, 3, 0, 0), (.aload_n 0, 0, 0, 0), (.getfield 14, 3, 1, 0), (.aload_n 0, 0, 0, 0), (.getfield 27, 3, 0, 0), (.sipush 255, 255, 0, 0), (.invokevirtual 38, 41, 2, 7), (.aload_n 0, 0, 0, 0), (.getfield 14, 3, 1, 0), (.getfield 71, 7, 1, 0), (.getfield 75, 2, 0, 0), (.iload_n 1, 1, 0, 0), (.iload_n 2, 2, 0, 0), (.iastore, 0, 0, 0), (.aload_n 0, 0, 0, 0), (.getfield 14, 3, 1, 0), (.invokevirtual 52, 42, 0, 7), (.aload_n 0, 0, 0, 0), (.getfield 14, 3, 1, 0), (.invokevirtual 80, 48, 0, 7), (.aload_n 0, 0, 0, 0), (.getfield 35, 3, 7, 0), (.if_icmp .ge 19, 2, 0, 0), (.aload_n 0, 0, 0, 0), (.aload_n 0, 0, 0, 0), (.getfield 14, 3, 1, 0), (.invokevirtual 80, 48, 0, 7), (.putfield 35, 3, 7, 0), (.aload_n 0, 0, 0, 0), (.iload_n 2, 2, 0, 0), (.putfield 31, 3, 5, 0)], 2),
  ([(.iinc 2 1, 2, 1, 0), (.goto (-73), 1, 0, 0)], 0),
  ([(.return_, 0, 0, 0)], 0)]
-- 12: X3_noneIsShortWithout
def bt_12 : List (List Op × Nat) := [
  ([(.aload_n 0, 0, 0, 0), (.getfield 14, 3, 1, 0), (.aload_n 0, 0, 0, 0), (.getfield 27, 3, 0, 0), (.sipush 255, 255, 0, 0), (.iload_n 1, 1, 0, 0), (.iconst (-1), 1, 1, 0), (.ixor, 0, 0, 0), (.iand, 0, 0, 0), (.invokevirtual 38, 41, 2, 7), (.aload_n 0, 0, 0, 0), (.getfield 14, 3, 1, 0), (.invokevirtual 52, 42, 0, 7), (.aload_n 0, 0, 0, 0), (.getfield 14, 3, 1, 0), (.getfield 84, 7, 10, 0), (.ifCond .ne 7, 1, 0, 0), (.iconst 1, 1, 0, 0), (.goto 4, 2, 0, 0)], 0),
  ([(.iconst 0, 0, 0, 0)], 2),
  ([(.ireturn, 1, 0, 0)], 0)]
-- 13: X3_keepSpare
def bt_13 : List (List Op × Nat) := [
  ([(.aload_n 0, 0, 0, 0), (.iload_n 1, 1, 0, 0), (.putfield 35, 3, 7, 0), (.aload_n 0, 0, 0, 0), (.iload_n 2, 2, 0, 0), (.putfield 31, 3, 5, 0), (.aload_n 0, 0, 0, 0), (.iload_n 3, 3, 0, 0), (.putfield 58, 3, 6, 0), (.return_, 0, 0, 0)], 0)]
-- 14: X3_findSpare
def bt_14 : List (List Op × Nat) := [
  ([(.aload_n 0, 0, 0, 0), (.iconst (-1), 1, 1, 0), (.iconst (-1), 1, 1, 0), (.iconst (-1), 1, 1, 0), (.invokevirtual 87, 13, 3, 3), (.aload_n 0, 0, 0, 0), (.getfield 27, 3, 0, 0), (.getfield 90, 0, 4, 0), (.getfield 96, 1, 3, 0), (.istore_n 1, 1, 0, 0), (.aload_n 0, 0, 0, 0), (.iconst 0, 0, 0, 0), (.invokevirtual 101, 12, 1, 3), (.ifCond .eq 10, 1, 0, 0), (.aload_n 0, 0, 0, 0), (.iconst 0, 0, 0, 0), (.iconst (-1), 1, 1, 0), (.iconst (-1), 1, 1, 0), (.invokevirtual 87, 13, 3, 3)], 1),
  ([(.iconst 0, 0, 0, 0), (.istore_n 2, 2, 0, 0)], 2),
  ([(.iload_n 2, 2, 0, 0), (.iload_n 1, 1, 0, 0), (.if_icmp .ge 34, 4, 0, 0), (.aload_n 0, 0, 0, 0), (.getfield 35, 3, 7, 0), (.iconst (-1), 1, 1, 0), (.if_icmp .ne 26, 4, 0, 0), (.aload_n 0, 0, 0, 0), (.iconst 1, 1, 0, 0), (.iload_n 2, 2, 0, 0), (.ishl, 0, 0, 0), (.invokevirtual 101, 12, 1, 3), (.ifCond .eq 10, 3, 0, 0), (.aload_n 0, 0, 0, 0), (.iconst 1, 1, 0, 0), (.iload_n 2, 2, 0, 0), (.iconst (-1), 1, 1, 0), (.invokevirtual 87, 13, 3, 3)], 3),
  ([(.iinc 2 1, 2, 1, 0), (.goto (-33), 2, 0, 0)], 0),
  ([(.iconst 0, 0, 0, 0), (.istore_n 2, 2, 0, 0)], 5),
  ([(.iload_n 2, 2, 0, 0), (.iload_n 1, 1, 0, 0), (.if_icmp .ge 61, 9, 0, 0), (.aload_n 0, 0, 0, 0), (.getfield 35, 3, 7, 0), (.iconst (-1), 1, 1, 0), (.if_icmp .ne 53, 9, 0, 0), (.iload_n 2, 2, 0, 0), (.iconst 1, 1, 0, 0), (.iadd, 0, 0, 0), (.istore_n 3, 3, 0, 0)], 6),
  ([(.iload_n 3, 3, 0, 0), (.iload_n 1, 1, 0, 0), (.if_icmp .ge 38, 8, 0, 0), (.aload_n 0, 0, 0, 0), (.getfield 35, 3, 7, 0), (.iconst (-1), 1, 1, 0), (.if_icmp .ne 30, 8, 0, 0), (.aload_n 0, 0, 0, 0), (.iconst 1, 1, 0, 0), (.iload_n 2, 2, 0, 0), (.ishl, 0, 0, 0), (.iconst 1, 1, 0, 0), (.iload_n 3, 3, 0, 0), (.ishl, 0, 0, 0), (.ior, 0, 0, 0), (.invokevirtual 101, 12, 1, 3), (.ifCond .eq 10, 7, 0, 0), (.aload_n 0, 0, 0, 0), (.iconst 2, 2, 0, 0), (.iload_n 2, 2, 0, 0), (.iload_n 3, 3, 0, 0), (.invokevirtual 87, 13, 3, 3)], 7),
  ([(.iinc 3 1, 3, 1, 0), (.goto (-37), 6, 0, 0)], 0),
  ([(.iinc 2 1, 2, 1, 0), (.goto (-60), 5, 0, 0)], 0),
  ([(.return_, 0, 0, 0)], 0)]
-- 15: X3_findNever
def bt_15 : List (List Op × Nat) := [
  ([(.iconst 0, 0, 0, 0), (.istore_n 1, 1, 0, 0), (.iconst 0, 0, 0, 0), (.istore_n 2, 2, 0, 0)], 1),
  ([(.iload_n 2, 2, 0, 0), (.aload_n 0, 0, 0, 0), (.getfield 27, 3, 0, 0), (.getfield 90, 0, 4, 0), (.getfield 96, 1, 3, 0), (.if_icmp .ge 62, 3, 0, 0), (.aload_n 0, 0, 0, 0), (.getfield 14, 3, 1, 0), (.aload_n 0, 0, 0, 0), (.getfield 27, 3, 0, 0), (.sipush 255, 255, 0, 0), (.iconst 1, 1, 0, 0), (.iload_n 2, 2, 0, 0), (.ishl, 0, 0, 0), (.iconst (-1), 1, 1, 0), (.ixor, 0, 0, 0), (.iand, 0, 0, 0), (.invokevirtual 38, 41, 2, 7), (.aload_n 0, 0, 0, 0), (.getfield 14, 3, 1, 0), (.invokevirtual 52, 42, 0, 7), (.aload_n 0, 0, 0, 0), (.getfield 27, 3, 0, 0), (.getfield 105, 0, 5, 0), (.aload_n 0, 0, 0, 0), (.getfield 14, 3, 1, 0), (.getfield 109, 7, 6, 0), (.invokevirtual 112, 26, 1, 4), (.ifCond .eq 9, 2, 0, 0), (.iload_n 1, 1, 0, 0), (.iconst 1, 1, 0, 0), (.iload_n 2, 2, 0, 0), (.ishl, 0, 0, 0), (.ior, 0, 0, 0), (.istore_n 1, 1, 0, 0)], 2),
  ([(.iinc 2 1, 2, 1, 0), (.goto (-70), 1, 0, 0)], 0),
  ([(.iload_n 1, 1, 0, 0), (.ireturn, 0, 0, 0)], 0)]
-- 16: X3_findSizes
def bt_16 : List (List Op × Nat) := [
  ([(.iconst 0, 0, 0, 0), (.istore_n 3, 3, 0, 0), (.iconst 1, 1, 0, 0), (.istore 4, 4, 0, 0)], 1),
  ([(.iload 4, 4, 0, 0), (.bipush 9, 9, 0, 0), (.if_icmp .gt 100, 3, 0, 0), (.aload_n 0, 0, 0, 0), (.getfield 14, 3, 1, 0), (.aload_n 0, 0, 0, 0), (.getfield 27, 3, 0, 0), (.sipush 255, 255, 0, 0), (.invokevirtual 38, 41, 2, 7), (.aload_n 0, 0, 0, 0), (.getfield 14, 3, 1, 0), (.getfield 61, 7, 0, 0), (.getfield 118, 6, 0, 0), (.iload_n 1, 1, 0, 0), (.bipush 6, 6, 0, 0), (.imul, 0, 0, 0), (.iload_n 2, 2, 0, 0), (.iadd, 0, 0, 0), (.iload 4, 4, 0, 0), (.iastore, 0, 0, 0), (.aload_n 0, 0, 0, 0), (.getfield 14, 3, 1, 0), (.invokevirtual 52, 42, 0, 7), (.aload_n 0, 0, 0, 0), (.getfield 14, 3, 1, 0), (.getfield 109, 7, 6, 0), (.iconst 0, 0, 0, 0), (.aload_n 0, 0, 0, 0), (.getfield 24, 3, 3, 0), (.iload 4, 4, 0, 0), (.iconst 1, 1, 0, 0), (.isub, 0, 0, 0), (.bipush 24, 24, 0, 0), (.imul, 0, 0, 0), (.bipush 24, 24, 0, 0), (.invokestatic 121, 999, 5, 0), (.aload_n 0, 0, 0, 0), (.getfield 27, 3, 0, 0), (.getfield 105, 0, 5, 0), (.aload_n 0, 0, 0, 0), (.getfield 14, 3, 1, 0), (.getfield 109, 7, 6, 0), (.invokevirtual 112, 26, 1, 4), (.ifCond .eq 10, 2, 0, 0), (.iload_n 3, 3, 0, 0), (.iconst 1, 1, 0, 0), (.iload 4, 4, 0, 0), (.ishl, 0, 0, 0), (.ior, 0, 0, 0), (.istore_n 3, 3, 0, 0)], 2),
  ([(.iinc 4 1, 4, 1, 0), (.goto (-101), 1, 0, 0)], 0),
  ([(.iload_n 3, 3, 0, 0), (.ireturn, 0, 0, 0)], 0)]
-- 17: X3_findAsk
def bt_17 : List (List Op × Nat) := [
  ([(.iconst (-1), 1, 1, 0), (.istore_n 2, 2, 0, 0), (.bipush 10, 10, 0, 0), (.istore_n 3, 3, 0, 0), (.iconst 0, 0, 0, 0), (.istore 4, 4, 0, 0)], 1),
  ([(.iload 4, 4, 0, 0), (.bipush 24, 24, 0, 0), (.if_icmp .ge 30, 3, 0, 0), (.aload_n 0, 0, 0, 0), (.iload_n 1, 1, 0, 0), (.iload 4, 4, 0, 0), (.invokevirtual 127, 18, 2, 3), (.istore 5, 5, 0, 0), (.iload 5, 5, 0, 0), (.iload_n 3, 3, 0, 0), (.if_icmp .ge 9, 2, 0, 0), (.iload 5, 5, 0, 0), (.istore_n 3, 3, 0, 0), (.iload 4, 4, 0, 0), (.istore_n 2, 2, 0, 0)], 2),
  ([(.iinc 4 1, 4, 1, 0), (.goto (-31), 1, 0, 0)], 0),
  ([(.iload_n 2, 2, 0, 0), (.ireturn, 0, 0, 0)], 0)]
-- 18: X3_mostAlike
def bt_18 : List (List Op × Nat) := [
  ([(.iconst 0, 0, 0, 0), (.istore_n 3, 3, 0, 0), (.iconst 1, 1, 0, 0), (.istore 4, 4, 0, 0)], 1),
  ([(.iload 4, 4, 0, 0), (.bipush 9, 9, 0, 0), (.if_icmp .gt 84, 5, 0, 0), (.iconst 0, 0, 0, 0), (.istore 5, 5, 0, 0), (.iconst 1, 1, 0, 0), (.istore 6, 6, 0, 0)], 2),
  ([(.iload 6, 6, 0, 0), (.bipush 9, 9, 0, 0), (.if_icmp .gt 58, 4, 0, 0), (.iload_n 1, 1, 0, 0), (.iload 4, 4, 0, 0), (.ishr, 0, 0, 0), (.iload_n 1, 1, 0, 0), (.iload 6, 6, 0, 0), (.ishr, 0, 0, 0), (.iand, 0, 0, 0), (.iconst 1, 1, 0, 0), (.iand, 0, 0, 0), (.iconst 1, 1, 0, 0), (.if_icmp .ne 37, 3, 0, 0), (.aload_n 0, 0, 0, 0), (.getfield 24, 3, 3, 0), (.iload 4, 4, 0, 0), (.iconst 1, 1, 0, 0), (.isub, 0, 0, 0), (.bipush 24, 24, 0, 0), (.imul, 0, 0, 0), (.iload_n 2, 2, 0, 0), (.iadd, 0, 0, 0), (.iaload, 0, 0, 0), (.aload_n 0, 0, 0, 0), (.getfield 24, 3, 3, 0), (.iload 6, 6, 0, 0), (.iconst 1, 1, 0, 0), (.isub, 0, 0, 0), (.bipush 24, 24, 0, 0), (.imul, 0, 0, 0), (.iload_n 2, 2, 0, 0), (.iadd, 0, 0, 0), (.iaload, 0, 0, 0), (.if_icmp .ne 6, 3, 0, 0), (.iinc 5 1, 5, 1, 0)], 3),
  ([(.iinc 6 1, 6, 1, 0), (.goto (-59), 2, 0, 0)], 0),
  ([(.iload_n 3, 3, 0, 0), (.iload 5, 5, 0, 0), (.invokestatic 131, 997, 2, 0), (.istore_n 3, 3, 0, 0), (.iinc 4 1, 4, 1, 0), (.goto (-85), 1, 0, 0)], 0),
  ([(.iload_n 3, 3, 0, 0), (.ireturn, 0, 0, 0)], 0)]
-- 19: X3_findChance
def bt_19 : List (List Op × Nat) := [
  ([(.aload_n 0, 0, 0, 0), (.invokevirtual 136, 20, 0, 3), (.aload_n 0, 0, 0, 0), (.getfield 27, 3, 0, 0), (.getfield 90, 0, 4, 0), (.getfield 96, 1, 3, 0), (.istore_n 3, 3, 0, 0), (.aload_n 0, 0, 0, 0), (.lconst 0, 0, 0, 0), (.putfield 139, 3, 8, 0), (.iconst 0, 0, 0, 0), (.istore 4, 4, 0, 0)], 1),
  ([(.iload 4, 4, 0, 0), (.iconst 1, 1, 0, 0), (.iload_n 3, 3, 0, 0), (.ishl, 0, 0, 0), (.if_icmp .ge 60, 3, 0, 0), (.aload_n 0, 0, 0, 0), (.getfield 20, 3, 2, 0), (.iload 4, 4, 0, 0), (.iaload, 0, 0, 0), (.iload_n 2, 2, 0, 0), (.ishr, 0, 0, 0), (.iconst 1, 1, 0, 0), (.iand, 0, 0, 0), (.iconst 1, 1, 0, 0), (.if_icmp .ne 39, 2, 0, 0), (.iload 4, 4, 0, 0), (.invokestatic 143, 196, 1, 0), (.istore 5, 5, 0, 0), (.aload_n 0, 0, 0, 0), (.dup, 0, 0, 0), (.getfield 139, 3, 8, 0), (.iload_n 1, 1, 0, 0), (.i2l, 0, 0, 0), (.iload 5, 5, 0, 0), (.invokestatic 149, 21, 2, 0), (.bipush 16, 16, 0, 0), (.iload_n 1, 1, 0, 0), (.isub, 0, 0, 0), (.i2l, 0, 0, 0), (.iload_n 3, 3, 0, 0), (.iload 5, 5, 0, 0), (.isub, 0, 0, 0), (.invokestatic 149, 21, 2, 0), (.lmul, 0, 0, 0), (.ladd, 0, 0, 0), (.putfield 139, 3, 8, 0)], 2),
  ([(.iinc 4 1, 4, 1, 0), (.goto (-62), 1, 0, 0)], 0),
  ([(.aload_n 0, 0, 0, 0), (.ldc2_w 153, 16, 0, 0), (.iload_n 3, 3, 0, 0), (.invokestatic 149, 21, 2, 0), (.putfield 155, 3, 9, 0), (.iconst 0, 0, 0, 0), (.istore 4, 4, 0, 0)], 4),
  ([(.iload 4, 4, 0, 0), (.bipush 32, 32, 0, 0), (.if_icmp .ge 59, 6, 0, 0), (.aload_n 0, 0, 0, 0), (.getfield 139, 3, 8, 0), (.ldc2_w 158, 2, 0, 0), (.lrem, 0, 0, 0), (.lconst 0, 0, 0, 0), (.lcmp, 0, 0, 0), (.ifCond .ne 40, 5, 0, 0), (.aload_n 0, 0, 0, 0), (.getfield 155, 3, 9, 0), (.ldc2_w 158, 2, 0, 0), (.lrem, 0, 0, 0), (.lconst 0, 0, 0, 0), (.lcmp, 0, 0, 0), (.ifCond .ne 27, 5, 0, 0), (.aload_n 0, 0, 0, 0), (.dup, 0, 0, 0), (.getfield 139, 3, 8, 0), (.ldc2_w 158, 2, 0, 0), (.ldiv, 0, 0, 0), (.putfield 139, 3, 8, 0), (.aload_n 0, 0, 0, 0), (.dup, 0, 0, 0), (.getfield 155, 3, 9, 0), (.ldc2_w 158, 2, 0, 0), (.ldiv, 0, 0, 0), (.putfield 155, 3, 9, 0)], 5),
  ([(.iinc 4 1, 4, 1, 0), (.goto (-60), 4, 0, 0)], 0),
  ([(.return_, 0, 0, 0)], 0)]
-- 20: X3_learnShorts
def bt_20 : List (List Op × Nat) := [
  ([(.iconst 0, 0, 0, 0), (.istore_n 1, 1, 0, 0)], 1),
  ([(.iload_n 1, 1, 0, 0), (.iconst 1, 1, 0, 0), (.aload_n 0, 0, 0, 0), (.getfield 27, 3, 0, 0), (.getfield 90, 0, 4, 0), (.getfield 96, 1, 3, 0), (.ishl, 0, 0, 0), (.if_icmp .ge 48, 2, 0, 0), (.aload_n 0, 0, 0, 0), (.getfield 160, 3, 4, 0), (.ifCond .ne 41, 2, 0, 0), (.aload_n 0, 0, 0, 0), (.getfield 14, 3, 1, 0), (.aload_n 0, 0, 0, 0), (.getfield 27, 3, 0, 0), (.iload_n 1, 1, 0, 0), (.invokevirtual 38, 41, 2, 7), (.aload_n 0, 0, 0, 0), (.getfield 14, 3, 1, 0), (.invokevirtual 52, 42, 0, 7), (.aload_n 0, 0, 0, 0), (.getfield 20, 3, 2, 0), (.iload_n 1, 1, 0, 0), (.aload_n 0, 0, 0, 0), (.getfield 14, 3, 1, 0), (.getfield 84, 7, 10, 0), (.iastore, 0, 0, 0), (.iinc 1 1, 1, 1, 0), (.goto (-58), 1, 0, 0)], 0),
  ([(.aload_n 0, 0, 0, 0), (.iconst 1, 1, 0, 0), (.putfield 160, 3, 4, 0), (.return_, 0, 0, 0)], 0)]
-- 21: X3_power
def bt_21 : List (List Op × Nat) := [
  ([(.lconst 1, 1, 0, 0), (.lstore_n 3, 3, 0, 0), (.iconst 0, 0, 0, 0), (.istore 5, 5, 0, 0)], 1),
  ([(.iload 5, 5, 0, 0), (.iload_n 2, 2, 0, 0), (.if_icmp .ge 13, 2, 0, 0), (.lload_n 3, 3, 0, 0), (.lload_n 0, 0, 0, 0), (.lmul, 0, 0, 0), (.lstore_n 3, 3, 0, 0), (.iinc 5 1, 5, 1, 0), (.goto (-13), 1, 0, 0)], 0),
  ([(.lload_n 3, 3, 0, 0), (.lreturn, 0, 0, 0)], 0)]
-- 22: X3_drawnSummer
def bt_22 : List (List Op × Nat) := [
  ([(.aload_n 0, 0, 0, 0), (.getfield 14, 3, 1, 0), (.aload_n 0, 0, 0, 0), (.getfield 27, 3, 0, 0), (.iconst 0, 0, 0, 0), (.invokevirtual 38, 41, 2, 7), (.iload_n 1, 1, 0, 0), (.istore_n 3, 3, 0, 0), (.iconst 0, 0, 0, 0), (.istore 4, 4, 0, 0)], 1),
  ([(.iload 4, 4, 0, 0), (.iload_n 2, 2, 0, 0), (.if_icmp .ge 59, 2, 0, 0), (.iload_n 3, 3, 0, 0), (.invokestatic 164, 23, 1, 0), (.istore_n 3, 3, 0, 0), (.iload_n 3, 3, 0, 0), (.iconst 3, 3, 0, 0), (.invokestatic 167, 24, 2, 0), (.istore 5, 5, 0, 0), (.iload_n 3, 3, 0, 0), (.invokestatic 164, 23, 1, 0), (.istore_n 3, 3, 0, 0), (.iload_n 3, 3, 0, 0), (.bipush 24, 24, 0, 0), (.invokestatic 167, 24, 2, 0), (.istore 6, 6, 0, 0), (.iload_n 3, 3, 0, 0), (.invokestatic 164, 23, 1, 0), (.istore_n 3, 3, 0, 0), (.aload_n 0, 0, 0, 0), (.getfield 14, 3, 1, 0), (.getfield 42, 7, 2, 0), (.iload 5, 5, 0, 0), (.iload 6, 6, 0, 0), (.iload_n 3, 3, 0, 0), (.bipush 6, 6, 0, 0), (.invokestatic 167, 24, 2, 0), (.invokevirtual 46, 51, 3, 9), (.iinc 4 1, 4, 1, 0), (.goto (-59), 1, 0, 0)], 0),
  ([(.aload_n 0, 0, 0, 0), (.getfield 14, 3, 1, 0), (.invokevirtual 52, 42, 0, 7), (.aload_n 0, 0, 0, 0), (.getfield 14, 3, 1, 0), (.areturn, 0, 0, 0)], 0)]
-- 23: X3_nextSeed
def bt_23 : List (List Op × Nat) := [
  ([(.ldc 170, 1103515245, 0, 0), (.iload_n 0, 0, 0, 0), (.imul, 0, 0, 0), (.sipush 12345, 12345, 0, 0), (.iadd, 0, 0, 0), (.ireturn, 0, 0, 0)], 0)]
-- 24: X3_lot
def bt_24 : List (List Op × Nat) := [
  ([(.iload_n 1, 1, 0, 0), (.iconst 1, 1, 0, 0), (.if_icmp .ge 7, 1, 0, 0), (.iconst 0, 0, 0, 0), (.goto 9, 2, 0, 0)], 0),
  ([(.iload_n 0, 0, 0, 0), (.bipush 16, 16, 0, 0), (.iushr, 0, 0, 0), (.iload_n 1, 1, 0, 0), (.irem, 0, 0, 0)], 2),
  ([(.ireturn, 0, 0, 0)], 0)]
-- 25: X4_append
def bt_25 : List (List Op × Nat) := [
  ([(.aload_n 0, 0, 0, 0), (.getfield 21, 4, 3, 0), (.bipush 8, 8, 0, 0), (.if_icmp .ge 43, 1, 0, 0), (.aload_n 0, 0, 0, 0), (.getfield 9, 4, 0, 0), (.aload_n 0, 0, 0, 0), (.getfield 21, 4, 3, 0), (.iload_n 1, 1, 0, 0), (.iastore, 0, 0, 0), (.aload_n 0, 0, 0, 0), (.getfield 15, 4, 1, 0), (.aload_n 0, 0, 0, 0), (.getfield 21, 4, 3, 0), (.iload_n 2, 2, 0, 0), (.iastore, 0, 0, 0), (.aload_n 0, 0, 0, 0), (.getfield 18, 4, 2, 0), (.aload_n 0, 0, 0, 0), (.getfield 21, 4, 3, 0), (.iload_n 3, 3, 0, 0), (.iastore, 0, 0, 0), (.aload_n 0, 0, 0, 0), (.dup, 0, 0, 0), (.getfield 21, 4, 3, 0), (.iconst 1, 1, 0, 0), (.iadd, 0, 0, 0), (.putfield 21, 4, 3, 0)], 1),
  ([(.return_, 0, 0, 0)], 0)]
-- 26: X4_fits
def bt_26 : List (List Op × Nat) := [
  ([(.iconst 0, 0, 0, 0), (.istore_n 2, 2, 0, 0)], 1),
  ([(.iload_n 2, 2, 0, 0), (.aload_n 0, 0, 0, 0), (.getfield 21, 4, 3, 0), (.if_icmp .ge 37, 3, 0, 0), (.aload_n 1, 1, 0, 0), (.aload_n 0, 0, 0, 0), (.getfield 9, 4, 0, 0), (.iload_n 2, 2, 0, 0), (.iaload, 0, 0, 0), (.iaload, 0, 0, 0), (.aload_n 0, 0, 0, 0), (.getfield 15, 4, 1, 0), (.iload_n 2, 2, 0, 0), (.iaload, 0, 0, 0), (.invokestatic 25, 40, 2, 0), (.aload_n 0, 0, 0, 0), (.getfield 18, 4, 2, 0), (.iload_n 2, 2, 0, 0), (.iaload, 0, 0, 0), (.if_icmp .eq 5, 2, 0, 0), (.iconst 0, 0, 0, 0), (.ireturn, 1, 0, 0)], 0),
  ([(.iinc 2 1, 2, 1, 0), (.goto (-39), 1, 0, 0)], 0),
  ([(.iconst 1, 1, 0, 0), (.ireturn, 1, 0, 0)], 0)]
-- 27: X5_renew
def bt_27 : List (List Op × Nat) := [
  ([(.aload_n 0, 0, 0, 0), (.getfield 9, 5, 0, 0), (.iconst 0, 0, 0, 0), (.invokestatic 19, 197, 2, 0), (.aload_n 0, 0, 0, 0), (.iload_n 1, 1, 0, 0), (.putfield 15, 5, 1, 0), (.aload_n 0, 0, 0, 0), (.iload_n 2, 2, 0, 0), (.putfield 25, 5, 2, 0), (.return_, 0, 0, 0)], 0)]
-- 28: X5_hindrance
def bt_28 : List (List Op × Nat) := [
  ([(.aload_n 0, 0, 0, 0), (.getfield 15, 5, 1, 0), (.iconst (-1), 1, 1, 0), (.if_icmp .ne 5, 1, 0, 0), (.iconst 1, 1, 0, 0), (.ireturn, 0, 0, 0)], 0),
  ([(.aload_n 0, 0, 0, 0), (.getfield 15, 5, 1, 0), (.iload_n 1, 1, 0, 0), (.if_icmp .eq 5, 2, 0, 0), (.iconst 3, 3, 0, 0), (.ireturn, 0, 0, 0)], 0),
  ([(.iload_n 2, 2, 0, 0), (.aload_n 0, 0, 0, 0), (.getfield 25, 5, 2, 0), (.iconst 1, 1, 0, 0), (.isub, 0, 0, 0), (.invokestatic 28, 93, 2, 1), (.ifCond .eq 7, 3, 0, 0), (.iconst 2, 2, 0, 0), (.goto 4, 4, 0, 0)], 0),
  ([(.iconst 0, 0, 0, 0)], 4),
  ([(.ireturn, 0, 0, 0)], 0)]
-- 29: X5_hasRow
def bt_29 : List (List Op × Nat) := [
  ([(.iload_n 1, 1, 0, 0), (.ifCond .lt 29, 1, 0, 0), (.iload_n 2, 2, 0, 0), (.ifCond .lt 25, 1, 0, 0), (.iload_n 1, 1, 0, 0), (.aload_n 0, 0, 0, 0), (.getfield 25, 5, 2, 0), (.if_icmp .gt 17, 1, 0, 0), (.iload_n 2, 2, 0, 0), (.aload_n 0, 0, 0, 0), (.getfield 25, 5, 2, 0), (.iload_n 1, 1, 0, 0), (.isub, 0, 0, 0), (.if_icmp .gt 7, 1, 0, 0), (.iconst 1, 1, 0, 0), (.goto 4, 2, 0, 0)], 0),
  ([(.iconst 0, 0, 0, 0)], 2),
  ([(.ireturn, 1, 0, 0)], 0)]
-- 30: X5_put
def bt_30 : List (List Op × Nat) := [
  ([(.iload_n 1, 1, 0, 0), (.aload_n 0, 0, 0, 0), (.getfield 25, 5, 2, 0), (.iconst 1, 1, 0, 0), (.isub, 0, 0, 0), (.invokestatic 28, 93, 2, 1), (.ifCond .ne 35, 4, 0, 0), (.aload_n 0, 0, 0, 0), (.getfield 9, 5, 0, 0), (.iload_n 1, 1, 0, 0), (.aload_n 0, 0, 0, 0), (.getfield 15, 5, 1, 0), (.ifCond .ne 8, 1, 0, 0), (.iload_n 2, 2, 0, 0), (.i2b, 0, 0, 0), (.goto 17, 3, 0, 0)], 0),
  ([(.aload_n 0, 0, 0, 0), (.getfield 15, 5, 1, 0), (.iconst 1, 1, 0, 0), (.if_icmp .ne 8, 2, 0, 0), (.iload_n 2, 2, 0, 0), (.i2s, 0, 0, 0), (.goto 4, 3, 0, 0)], 0),
  ([(.iload_n 2, 2, 0, 0)], 3),
  ([(.iastore, 0, 0, 0)], 4),
  ([(.return_, 0, 0, 0)], 0)]
-- 31: X6_clearAll
def bt_31 : List (List Op × Nat) := [
  ([(.aload_n 0, 0, 0, 0), (.getfield 9, 6, 0, 0), (.iconst 0, 0, 0, 0), (.invokestatic 18, 197, 2, 0), (.aload_n 0, 0, 0, 0), (.getfield 15, 6, 1, 0), (.iconst 0, 0, 0, 0), (.invokestatic 18, 197, 2, 0), (.return_, 0, 0, 0)], 0)]
-- 32: X6_become
def bt_32 : List (List Op × Nat) := [
  ([(.aload_n 1, 1, 0, 0), (.getfield 9, 6, 0, 0), (.iconst 0, 0, 0, 0), (.aload_n 0, 0, 0, 0), (.getfield 9, 6, 0, 0), (.iconst 0, 0, 0, 0), (.bipush 36, 36, 0, 0), (.invokestatic 24, 999, 5, 0), (.aload_n 1, 1, 0, 0), (.getfield 15, 6, 1, 0), (.iconst 0, 0, 0, 0), (.aload_n 0, 0, 0, 0), (.getfield 15, 6, 1, 0), (.iconst 0, 0, 0, 0), (.bipush 6, 6, 0, 0), (.invokestatic 24, 999, 5, 0), (.return_, 0, 0, 0)], 0)]
-- 33: X6_putOnTop
def bt_33 : List (List Op × Nat) := [
  ([(.aload_n 0, 0, 0, 0), (.getfield 15, 6, 1, 0), (.iload_n 1, 1, 0, 0), (.iaload, 0, 0, 0), (.bipush 6, 6, 0, 0), (.if_icmp .ge 30, 1, 0, 0), (.aload_n 0, 0, 0, 0), (.getfield 9, 6, 0, 0), (.iload_n 1, 1, 0, 0), (.bipush 6, 6, 0, 0), (.imul, 0, 0, 0), (.aload_n 0, 0, 0, 0), (.getfield 15, 6, 1, 0), (.iload_n 1, 1, 0, 0), (.iaload, 0, 0, 0), (.iadd, 0, 0, 0), (.iload_n 2, 2, 0, 0), (.iastore, 0, 0, 0), (.aload_n 0, 0, 0, 0), (.getfield 15, 6, 1, 0), (.iload_n 1, 1, 0, 0), (.dup2, 0, 0, 0), (.iaload, 0, 0, 0), (.iconst 1, 1, 0, 0), (.iadd, 0, 0, 0), (.iastore, 0, 0, 0)], 1),
  ([(.return_, 0, 0, 0)], 0)]
-- 34: X6_takeFromTop
def bt_34 : List (List Op × Nat) := [
  ([(.aload_n 0, 0, 0, 0), (.getfield 15, 6, 1, 0), (.iload_n 1, 1, 0, 0), (.iaload, 0, 0, 0), (.ifCond .ne 5, 1, 0, 0), (.iconst 0, 0, 0, 0), (.ireturn, 0, 0, 0)], 0),
  ([(.aload_n 0, 0, 0, 0), (.getfield 15, 6, 1, 0), (.iload_n 1, 1, 0, 0), (.dup2, 0, 0, 0), (.iaload, 0, 0, 0), (.iconst 1, 1, 0, 0), (.isub, 0, 0, 0), (.iastore, 0, 0, 0), (.iload_n 1, 1, 0, 0), (.bipush 6, 6, 0, 0), (.imul, 0, 0, 0), (.aload_n 0, 0, 0, 0), (.getfield 15, 6, 1, 0), (.iload_n 1, 1, 0, 0), (.iaload, 0, 0, 0), (.iadd, 0, 0, 0), (.istore_n 2, 2, 0, 0), (.aload_n 0, 0, 0, 0), (.getfield 9, 6, 0, 0), (.iload_n 2, 2, 0, 0), (.iaload, 0, 0, 0), (.istore_n 3, 3, 0, 0), (.aload_n 0, 0, 0, 0), (.getfield 9, 6, 0, 0), (.iload_n 2, 2, 0, 0), (.iconst 0, 0, 0, 0), (.iastore, 0, 0, 0), (.iload_n 3, 3, 0, 0), (.ireturn, 0, 0, 0)], 0)]
-- 35: X6_columnOfGreatestTop
def bt_35 : List (List Op × Nat) := [
  ([(.iconst (-1), 1, 1, 0), (.istore_n 1, 1, 0, 0), (.iconst 0, 0, 0, 0), (.istore_n 2, 2, 0, 0), (.iconst 0, 0, 0, 0), (.istore_n 3, 3, 0, 0)], 1),
  ([(.iload_n 3, 3, 0, 0), (.bipush 6, 6, 0, 0), (.if_icmp .ge 53, 5, 0, 0), (.aload_n 0, 0, 0, 0), (.getfield 15, 6, 1, 0), (.iload_n 3, 3, 0, 0), (.iaload, 0, 0, 0), (.ifCond .ne 7, 2, 0, 0), (.iconst 0, 0, 0, 0), (.goto 21, 3, 0, 0)], 0),
  ([(.aload_n 0, 0, 0, 0), (.getfield 9, 6, 0, 0), (.iload_n 3, 3, 0, 0), (.bipush 6, 6, 0, 0), (.imul, 0, 0, 0), (.aload_n 0, 0, 0, 0), (.getfield 15, 6, 1, 0), (.iload_n 3, 3, 0, 0), (.iaload, 0, 0, 0), (.iadd, 0, 0, 0), (.iconst 1, 1, 0, 0), (.isub, 0, 0, 0), (.iaload, 0, 0, 0)], 3),
  ([(.istore 4, 4, 0, 0), (.iload 4, 4, 0, 0), (.iload_n 2, 2, 0, 0), (.if_icmp .le 8, 4, 0, 0), (.iload_n 3, 3, 0, 0), (.istore_n 1, 1, 0, 0), (.iload 4, 4, 0, 0), (.istore_n 2, 2, 0, 0)], 4),
  ([(.iinc 3 1, 3, 1, 0), (.goto (-53), 1, 0, 0)], 0),
  ([(.iload_n 1, 1, 0, 0), (.ireturn, 0, 0, 0)], 0)]
-- 36: X6_exchange
def bt_36 : List (List Op × Nat) := [
  ([(.iconst 0, 0, 0, 0), (.istore_n 3, 3, 0, 0)], 1),
  ([(.iload_n 3, 3, 0, 0), (.bipush 6, 6, 0, 0), (.if_icmp .ge 57, 2, 0, 0), (.aload_n 0, 0, 0, 0), (.getfield 9, 6, 0, 0), (.iload_n 1, 1, 0, 0), (.bipush 6, 6, 0, 0), (.imul, 0, 0, 0), (.iload_n 3, 3, 0, 0), (.iadd, 0, 0, 0), (.iaload, 0, 0, 0), (.istore 4, 4, 0, 0), (.aload_n 0, 0, 0, 0), (.getfield 9, 6, 0, 0), (.iload_n 1, 1, 0, 0), (.bipush 6, 6, 0, 0), (.imul, 0, 0, 0), (.iload_n 3, 3, 0, 0), (.iadd, 0, 0, 0), (.aload_n 0, 0, 0, 0), (.getfield 9, 6, 0, 0), (.iload_n 2, 2, 0, 0), (.bipush 6, 6, 0, 0), (.imul, 0, 0, 0), (.iload_n 3, 3, 0, 0), (.iadd, 0, 0, 0), (.iaload, 0, 0, 0), (.iastore, 0, 0, 0), (.aload_n 0, 0, 0, 0), (.getfield 9, 6, 0, 0), (.iload_n 2, 2, 0, 0), (.bipush 6, 6, 0, 0), (.imul, 0, 0, 0), (.iload_n 3, 3, 0, 0), (.iadd, 0, 0, 0), (.iload 4, 4, 0, 0), (.iastore, 0, 0, 0), (.iinc 3 1, 3, 1, 0), (.goto (-57), 1, 0, 0)], 0),
  ([(.aload_n 0, 0, 0, 0), (.getfield 15, 6, 1, 0), (.iload_n 1, 1, 0, 0), (.iaload, 0, 0, 0), (.istore_n 3, 3, 0, 0), (.aload_n 0, 0, 0, 0), (.getfield 15, 6, 1, 0), (.iload_n 1, 1, 0, 0), (.aload_n 0, 0, 0, 0), (.getfield 15, 6, 1, 0), (.iload_n 2, 2, 0, 0), (.iaload, 0, 0, 0), (.iastore, 0, 0, 0), (.aload_n 0, 0, 0, 0), (.getfield 15, 6, 1, 0), (.iload_n 2, 2, 0, 0), (.iload_n 3, 3, 0, 0), (.iastore, 0, 0, 0), (.return_, 0, 0, 0)], 0)]
-- 37: X6_numberOfBlocks
def bt_37 : List (List Op × Nat) := [
  ([(.iconst 0, 0, 0, 0), (.istore_n 1, 1, 0, 0), (.iconst 0, 0, 0, 0), (.istore_n 2, 2, 0, 0)], 1),
  ([(.iload_n 2, 2, 0, 0), (.bipush 6, 6, 0, 0), (.if_icmp .ge 18, 2, 0, 0), (.iload_n 1, 1, 0, 0), (.aload_n 0, 0, 0, 0), (.getfield 15, 6, 1, 0), (.iload_n 2, 2, 0, 0), (.iaload, 0, 0, 0), (.iadd, 0, 0, 0), (.istore_n 1, 1, 0, 0), (.iinc 2 1, 2, 1, 0), (.goto (-18), 1, 0, 0)], 0),
  ([(.iload_n 1, 1, 0, 0), (.ireturn, 0, 0, 0)], 0)]
-- 38: X6_total
def bt_38 : List (List Op × Nat) := [
  ([(.iconst 0, 0, 0, 0), (.istore_n 1, 1, 0, 0), (.iconst 0, 0, 0, 0), (.istore_n 2, 2, 0, 0)], 1),
  ([(.iload_n 2, 2, 0, 0), (.bipush 36, 36, 0, 0), (.if_icmp .ge 18, 2, 0, 0), (.iload_n 1, 1, 0, 0), (.aload_n 0, 0, 0, 0), (.getfield 9, 6, 0, 0), (.iload_n 2, 2, 0, 0), (.iaload, 0, 0, 0), (.iadd, 0, 0, 0), (.istore_n 1, 1, 0, 0), (.iinc 2 1, 2, 1, 0), (.goto (-18), 1, 0, 0)], 0),
  ([(.iload_n 1, 1, 0, 0), (.ireturn, 0, 0, 0)], 0)]
-- 39: X6_shapeOfAll
def bt_39 : List (List Op × Nat) := [
  ([(.iconst 0, 0, 0, 0), (.istore_n 1, 1, 0, 0), (.iconst 0, 0, 0, 0), (.istore_n 2, 2, 0, 0)], 1),
  ([(.iload_n 2, 2, 0, 0), (.bipush 6, 6, 0, 0), (.if_icmp .ge 22, 2, 0, 0), (.iload_n 1, 1, 0, 0), (.aload_n 0, 0, 0, 0), (.getfield 15, 6, 1, 0), (.iload_n 2, 2, 0, 0), (.iaload, 0, 0, 0), (.iconst 3, 3, 0, 0), (.iload_n 2, 2, 0, 0), (.imul, 0, 0, 0), (.ishl, 0, 0, 0), (.ior, 0, 0, 0), (.istore_n 1, 1, 0, 0), (.iinc 2 1, 2, 1, 0), (.goto (-22), 1, 0, 0)], 0),
  ([(.iload_n 1, 1, 0, 0), (.ireturn, 0, 0, 0)], 0)]
-- 40: X7_highIn
def bt_40 : List (List Op × Nat) := [
  ([(.iload_n 0, 0, 0, 0), (.iconst 3, 3, 0, 0), (.iload_n 1, 1, 0, 0), (.imul, 0, 0, 0), (.ishr, 0, 0, 0), (.bipush 7, 7, 0, 0), (.iand, 0, 0, 0), (.ireturn, 0, 0, 0)], 0)]
-- 41: X7_prepare
def bt_41 : List (List Op × Nat) := [
  ([(.aload_n 0, 0, 0, 0), (.getfield 12, 7, 0, 0), (.aload_n 1, 1, 0, 0), (.getfield 55, 0, 2, 0), (.invokevirtual 60, 32, 1, 6), (.aload_n 0, 0, 0, 0), (.getfield 21, 7, 1, 0), (.aload_n 1, 1, 0, 0), (.getfield 64, 0, 3, 0), (.invokevirtual 65, 8, 1, 2), (.aload_n 0, 0, 0, 0), (.getfield 28, 7, 2, 0), (.invokevirtual 68, 50, 0, 9), (.aload_n 1, 1, 0, 0), (.getfield 71, 0, 4, 0), (.astore_n 3, 3, 0, 0), (.iconst 0, 0, 0, 0), (.istore 4, 4, 0, 0)], 1),
  ([(.iload 4, 4, 0, 0), (.aload_n 3, 3, 0, 0), (.getfield 75, 1, 3, 0), (.if_icmp .ge 47, 3, 0, 0), (.iload_n 2, 2, 0, 0), (.iload 4, 4, 0, 0), (.ishr, 0, 0, 0), (.iconst 1, 1, 0, 0), (.iand, 0, 0, 0), (.iconst 1, 1, 0, 0), (.if_icmp .ne 31, 2, 0, 0), (.aload_n 0, 0, 0, 0), (.getfield 28, 7, 2, 0), (.aload_n 3, 3, 0, 0), (.getfield 81, 1, 0, 0), (.iload 4, 4, 0, 0), (.iaload, 0, 0, 0), (.aload_n 3, 3, 0, 0), (.getfield 84, 1, 1, 0), (.iload 4, 4, 0, 0), (.iaload, 0, 0, 0), (.aload_n 3, 3, 0, 0), (.getfield 87, 1, 2, 0), (.iload 4, 4, 0, 0), (.iaload, 0, 0, 0), (.invokevirtual 90, 51, 3, 9)], 2),
  ([(.iinc 4 1, 4, 1, 0), (.goto (-50), 1, 0, 0)], 0),
  ([(.return_, 0, 0, 0)], 0)]
-- 42: X7_run
def bt_42 : List (List Op × Nat) := [
  ([(.aload_n 0, 0, 0, 0), (.iconst 0, 0, 0, 0), (.putfield 94, 7, 10, 0), (.aload_n 0, 0, 0, 0), (.getfield 12, 7, 0, 0), (.invokevirtual 97, 38, 0, 6), (.istore_n 1, 1, 0, 0), (.iconst 0, 0, 0, 0), (.istore_n 2, 2, 0, 0)], 1),
  ([(.iload_n 2, 2, 0, 0), (.bipush 24, 24, 0, 0), (.if_icmp .ge 123, 6, 0, 0), (.iconst 0, 0, 0, 0), (.istore_n 3, 3, 0, 0)], 2),
  ([(.iload_n 3, 3, 0, 0), (.aload_n 0, 0, 0, 0), (.getfield 21, 7, 1, 0), (.getfield 101, 2, 2, 0), (.if_icmp .ge 36, 4, 0, 0), (.aload_n 0, 0, 0, 0), (.getfield 21, 7, 1, 0), (.getfield 102, 2, 0, 0), (.iload_n 3, 3, 0, 0), (.iaload, 0, 0, 0), (.iload_n 2, 2, 0, 0), (.if_icmp .ne 17, 3, 0, 0), (.aload_n 0, 0, 0, 0), (.iload_n 3, 3, 0, 0), (.invokevirtual 103, 43, 1, 7), (.iload_n 1, 1, 0, 0), (.aload_n 0, 0, 0, 0), (.getfield 32, 7, 3, 0), (.iload_n 3, 3, 0, 0), (.iaload, 0, 0, 0), (.isub, 0, 0, 0), (.istore_n 1, 1, 0, 0)], 3),
  ([(.iinc 3 1, 3, 1, 0), (.goto (-41), 2, 0, 0)], 0),
  ([(.aload_n 0, 0, 0, 0), (.getfield 39, 7, 5, 0), (.iload_n 2, 2, 0, 0), (.aload_n 0, 0, 0, 0), (.iload_n 2, 2, 0, 0), (.invokevirtual 107, 44, 1, 7), (.iastore, 0, 0, 0), (.iload_n 1, 1, 0, 0), (.aload_n 0, 0, 0, 0), (.getfield 39, 7, 5, 0), (.iload_n 2, 2, 0, 0), (.iaload, 0, 0, 0), (.isub, 0, 0, 0), (.istore_n 1, 1, 0, 0), (.aload_n 0, 0, 0, 0), (.getfield 36, 7, 4, 0), (.iload_n 2, 2, 0, 0), (.iload_n 1, 1, 0, 0), (.iastore, 0, 0, 0), (.aload_n 0, 0, 0, 0), (.getfield 42, 7, 6, 0), (.iload_n 2, 2, 0, 0), (.aload_n 0, 0, 0, 0), (.getfield 12, 7, 0, 0), (.invokevirtual 111, 39, 0, 6), (.iastore, 0, 0, 0), (.aload_n 0, 0, 0, 0), (.getfield 48, 7, 8, 0), (.ifCond .eq 24, 5, 0, 0), (.aload_n 0, 0, 0, 0), (.getfield 12, 7, 0, 0), (.getfield 114, 6, 0, 0), (.iconst 0, 0, 0, 0), (.aload_n 0, 0, 0, 0), (.getfield 52, 7, 7, 0), (.iload_n 2, 2, 0, 0), (.bipush 36, 36, 0, 0), (.imul, 0, 0, 0), (.bipush 36, 36, 0, 0), (.invokestatic 117, 999, 5, 0)], 5),
  ([(.iinc 2 1, 2, 1, 0), (.goto (-123), 1, 0, 0)], 0),
  ([(.return_, 0, 0, 0)], 0)]
-- 43: X7_serve
def bt_43 : List (List Op × Nat) := [
  ([(.iconst 0, 0, 0, 0), (.istore_n 2, 2, 0, 0), (.iconst 0, 0, 0, 0), (.istore_n 3, 3, 0, 0)], 1),
  ([(.iload_n 3, 3, 0, 0), (.bipush 36, 36, 0, 0), (.if_icmp .ge 52, 3, 0, 0), (.iload_n 2, 2, 0, 0), (.aload_n 0, 0, 0, 0), (.getfield 21, 7, 1, 0), (.getfield 123, 2, 1, 0), (.iload_n 1, 1, 0, 0), (.iaload, 0, 0, 0), (.if_icmp .ge 39, 3, 0, 0), (.aload_n 0, 0, 0, 0), (.getfield 12, 7, 0, 0), (.invokevirtual 126, 35, 0, 6), (.istore 4, 4, 0, 0), (.iload 4, 4, 0, 0), (.iconst (-1), 1, 1, 0), (.if_icmp .ne 6, 2, 0, 0), (.goto 21, 3, 0, 0)], 0),
  ([(.iload_n 2, 2, 0, 0), (.aload_n 0, 0, 0, 0), (.getfield 12, 7, 0, 0), (.iload 4, 4, 0, 0), (.invokevirtual 129, 34, 1, 6), (.iadd, 0, 0, 0), (.istore_n 2, 2, 0, 0), (.iinc 3 1, 3, 1, 0), (.goto (-52), 1, 0, 0)], 0),
  ([(.aload_n 0, 0, 0, 0), (.getfield 32, 7, 3, 0), (.iload_n 1, 1, 0, 0), (.iload_n 2, 2, 0, 0), (.iastore, 0, 0, 0), (.iload_n 2, 2, 0, 0), (.aload_n 0, 0, 0, 0), (.getfield 21, 7, 1, 0), (.getfield 123, 2, 1, 0), (.iload_n 1, 1, 0, 0), (.iaload, 0, 0, 0), (.if_icmp .ge 15, 4, 0, 0), (.aload_n 0, 0, 0, 0), (.dup, 0, 0, 0), (.getfield 94, 7, 10, 0), (.iconst 1, 1, 0, 0), (.iload_n 1, 1, 0, 0), (.ishl, 0, 0, 0), (.ior, 0, 0, 0), (.putfield 94, 7, 10, 0)], 4),
  ([(.return_, 0, 0, 0)], 0)]
-- 44: X7_melt
def bt_44 : List (List Op × Nat) := [
  ([(.aload_n 0, 0, 0, 0), (.getfield 12, 7, 0, 0), (.getfield 132, 6, 1, 0), (.iconst 0, 0, 0, 0), (.aload_n 0, 0, 0, 0), (.getfield 45, 7, 9, 0), (.iconst 0, 0, 0, 0), (.bipush 6, 6, 0, 0), (.invokestatic 117, 999, 5, 0), (.iconst 0, 0, 0, 0), (.istore_n 2, 2, 0, 0), (.iconst 0, 0, 0, 0), (.istore_n 3, 3, 0, 0)], 1),
  ([(.iload_n 3, 3, 0, 0), (.bipush 6, 6, 0, 0), (.if_icmp .ge 27, 3, 0, 0), (.aload_n 0, 0, 0, 0), (.getfield 45, 7, 9, 0), (.iload_n 3, 3, 0, 0), (.iaload, 0, 0, 0), (.ifCond .le 12, 2, 0, 0), (.iload_n 2, 2, 0, 0), (.aload_n 0, 0, 0, 0), (.iload_n 3, 3, 0, 0), (.iload_n 1, 1, 0, 0), (.invokevirtual 135, 45, 2, 7), (.iadd, 0, 0, 0), (.istore_n 2, 2, 0, 0)], 2),
  ([(.iinc 3 1, 3, 1, 0), (.goto (-27), 1, 0, 0)], 0),
  ([(.iload_n 2, 2, 0, 0), (.ireturn, 0, 0, 0)], 0)]
-- 45: X7_meltColumn
def bt_45 : List (List Op × Nat) := [
  ([(.iload_n 1, 1, 0, 0), (.ifCond .ne 8, 1, 0, 0), (.bipush 6, 6, 0, 0), (.goto 11, 2, 0, 0)], 0),
  ([(.aload_n 0, 0, 0, 0), (.getfield 45, 7, 9, 0), (.iload_n 1, 1, 0, 0), (.iconst 1, 1, 0, 0), (.isub, 0, 0, 0), (.iaload, 0, 0, 0)], 2),
  ([(.istore_n 3, 3, 0, 0), (.iload_n 1, 1, 0, 0), (.iconst 5, 5, 0, 0), (.if_icmp .ne 8, 3, 0, 0), (.bipush 6, 6, 0, 0), (.goto 11, 4, 0, 0)], 0),
  ([(.aload_n 0, 0, 0, 0), (.getfield 45, 7, 9, 0), (.iload_n 1, 1, 0, 0), (.iconst 1, 1, 0, 0), (.iadd, 0, 0, 0), (.iaload, 0, 0, 0)], 4),
  ([(.istore 4, 4, 0, 0), (.aload_n 0, 0, 0, 0), (.getfield 45, 7, 9, 0), (.iload_n 1, 1, 0, 0), (.iaload, 0, 0, 0), (.iconst 1, 1, 0, 0), (.isub, 0, 0, 0), (.istore 5, 5, 0, 0), (.aload_n 0, 0, 0, 0), (.getfield 28, 7, 2, 0), (.getfield 139, 9, 0, 0), (.iload_n 1, 1, 0, 0), (.iaload, 0, 0, 0), (.iload_n 2, 2, 0, 0), (.if_icmp .gt 7, 5, 0, 0), (.iconst 1, 1, 0, 0), (.goto 4, 6, 0, 0)], 0),
  ([(.iconst 0, 0, 0, 0)], 6),
  ([(.istore 6, 6, 0, 0), (.aload_n 0, 0, 0, 0), (.getfield 28, 7, 2, 0), (.getfield 142, 9, 1, 0), (.iload_n 2, 2, 0, 0), (.ishr, 0, 0, 0), (.iconst 1, 1, 0, 0), (.iand, 0, 0, 0), (.istore 7, 7, 0, 0), (.aload_n 0, 0, 0, 0), (.getfield 28, 7, 2, 0), (.getfield 145, 9, 2, 0), (.iload_n 2, 2, 0, 0), (.ishr, 0, 0, 0), (.iconst 1, 1, 0, 0), (.iand, 0, 0, 0), (.istore 8, 8, 0, 0), (.iload 5, 5, 0, 0), (.iload_n 3, 3, 0, 0), (.iload 4, 4, 0, 0), (.invokestatic 148, 998, 2, 0), (.invokestatic 148, 998, 2, 0), (.istore 9, 9, 0, 0), (.iconst 0, 0, 0, 0), (.istore 10, 10, 0, 0), (.iload 9, 9, 0, 0), (.istore 11, 11, 0, 0), (.iload 9, 9, 0, 0), (.istore 12, 12, 0, 0)], 7),
  ([(.iload 12, 12, 0, 0), (.iload 5, 5, 0, 0), (.if_icmp .gt 160, 17, 0, 0), (.iload 12, 12, 0, 0), (.iload 5, 5, 0, 0), (.if_icmp .ne 12, 8, 0, 0), (.iload 6, 6, 0, 0), (.ifCond .ne 7, 8, 0, 0), (.iconst 1, 1, 0, 0), (.goto 4, 9, 0, 0)], 0),
  ([(.iconst 0, 0, 0, 0)], 9),
  ([(.istore 13, 13, 0, 0), (.iload 13, 13, 0, 0), (.iload_n 3, 3, 0, 0), (.iload 12, 12, 0, 0), (.if_icmp .gt 7, 10, 0, 0), (.iconst 1, 1, 0, 0), (.goto 4, 11, 0, 0)], 0),
  ([(.iconst 0, 0, 0, 0)], 11),
  ([(.iadd, 0, 0, 0), (.iload 4, 4, 0, 0), (.iload 12, 12, 0, 0), (.if_icmp .gt 7, 12, 0, 0), (.iconst 1, 1, 0, 0), (.goto 4, 13, 0, 0)], 0),
  ([(.iconst 0, 0, 0, 0)], 13),
  ([(.iadd, 0, 0, 0), (.istore 14, 14, 0, 0), (.iload 14, 14, 0, 0), (.iconst 2, 2, 0, 0), (.idiv, 0, 0, 0), (.iload 7, 7, 0, 0), (.iload 13, 13, 0, 0), (.imul, 0, 0, 0), (.iadd, 0, 0, 0), (.iload 14, 14, 0, 0), (.ifCond .le 8, 14, 0, 0), (.iload 8, 8, 0, 0), (.goto 4, 15, 0, 0)], 0),
  ([(.iconst 0, 0, 0, 0)], 15),
  ([(.iadd, 0, 0, 0), (.istore 15, 15, 0, 0), (.aload_n 0, 0, 0, 0), (.getfield 12, 7, 0, 0), (.getfield 114, 6, 0, 0), (.iload_n 1, 1, 0, 0), (.bipush 6, 6, 0, 0), (.imul, 0, 0, 0), (.iload 12, 12, 0, 0), (.iadd, 0, 0, 0), (.iaload, 0, 0, 0), (.istore 16, 16, 0, 0), (.iconst 0, 0, 0, 0), (.iload 16, 16, 0, 0), (.iload 15, 15, 0, 0), (.isub, 0, 0, 0), (.invokestatic 153, 997, 2, 0), (.istore 17, 17, 0, 0), (.iload 10, 10, 0, 0), (.iload 16, 16, 0, 0), (.iload 17, 17, 0, 0), (.isub, 0, 0, 0), (.iadd, 0, 0, 0), (.istore 10, 10, 0, 0), (.aload_n 0, 0, 0, 0), (.getfield 12, 7, 0, 0), (.getfield 114, 6, 0, 0), (.iload_n 1, 1, 0, 0), (.bipush 6, 6, 0, 0), (.imul, 0, 0, 0), (.iload 12, 12, 0, 0), (.iadd, 0, 0, 0), (.iconst 0, 0, 0, 0), (.iastore, 0, 0, 0), (.iload 17, 17, 0, 0), (.ifCond .le 23, 16, 0, 0), (.aload_n 0, 0, 0, 0), (.getfield 12, 7, 0, 0), (.getfield 114, 6, 0, 0), (.iload_n 1, 1, 0, 0), (.bipush 6, 6, 0, 0), (.imul, 0, 0, 0), (.iload 11, 11, 0, 0), (.iadd, 0, 0, 0), (.iload 17, 17, 0, 0), (.iastore, 0, 0, 0), (.iinc 11 1, 11, 1, 0)], 16),
  ([(.iinc 12 1, 12, 1, 0), (.goto (-161), 7, 0, 0)], 0),
  ([(.aload_n 0, 0, 0, 0), (.getfield 12, 7, 0, 0), (.getfield 132, 6, 1, 0), (.iload_n 1, 1, 0, 0), (.iload 11, 11, 0, 0), (.iastore, 0, 0, 0), (.iload 10, 10, 0, 0), (.ireturn, 0, 0, 0)], 0)]
-- 46: X7_standingIn
def bt_46 : List (List Op × Nat) := [
  ([(.iconst 0, 0, 0, 0), (.istore_n 3, 3, 0, 0), (.iconst 0, 0, 0, 0), (.istore 4, 4, 0, 0)], 1),
  ([(.iload 4, 4, 0, 0), (.bipush 6, 6, 0, 0), (.if_icmp .ge 36, 2, 0, 0), (.aload_n 0, 0, 0, 0), (.getfield 48, 7, 8, 0), (.ifCond .eq 29, 2, 0, 0), (.iload_n 3, 3, 0, 0), (.aload_n 0, 0, 0, 0), (.getfield 52, 7, 7, 0), (.iload_n 1, 1, 0, 0), (.bipush 36, 36, 0, 0), (.imul, 0, 0, 0), (.iload_n 2, 2, 0, 0), (.bipush 6, 6, 0, 0), (.imul, 0, 0, 0), (.iadd, 0, 0, 0), (.iload 4, 4, 0, 0), (.iadd, 0, 0, 0), (.iaload, 0, 0, 0), (.iadd, 0, 0, 0), (.istore_n 3, 3, 0, 0), (.iinc 4 1, 4, 1, 0), (.goto (-37), 1, 0, 0)], 0),
  ([(.iload_n 3, 3, 0, 0), (.ireturn, 0, 0, 0)], 0)]
-- 47: X7_sumOfAll
def bt_47 : List (List Op × Nat) := [
  ([(.iconst 0, 0, 0, 0), (.istore_n 1, 1, 0, 0), (.iconst 0, 0, 0, 0), (.istore_n 2, 2, 0, 0)], 1),
  ([(.iload_n 2, 2, 0, 0), (.aload_n 0, 0, 0, 0), (.getfield 21, 7, 1, 0), (.getfield 101, 2, 2, 0), (.if_icmp .ge 18, 2, 0, 0), (.iload_n 1, 1, 0, 0), (.aload_n 0, 0, 0, 0), (.getfield 32, 7, 3, 0), (.iload_n 2, 2, 0, 0), (.iaload, 0, 0, 0), (.iadd, 0, 0, 0), (.istore_n 1, 1, 0, 0), (.iinc 2 1, 2, 1, 0), (.goto (-23), 1, 0, 0)], 0),
  ([(.iload_n 1, 1, 0, 0), (.ireturn, 0, 0, 0)], 0)]
-- 48: X7_shortOrders
def bt_48 : List (List Op × Nat) := [
  ([(.aload_n 0, 0, 0, 0), (.getfield 94, 7, 10, 0), (.invokestatic 156, 196, 1, 0), (.ireturn, 0, 0, 0)], 0)]
-- 49: X8_append
def bt_49 : List (List Op × Nat) := [
  ([(.aload_n 0, 0, 0, 0), (.getfield 25, 8, 2, 0), (.aload_n 0, 0, 0, 0), (.getfield 21, 8, 0, 0), (.if_icmp .ge 23, 1, 0, 0), (.aload_n 0, 0, 0, 0), (.getfield 9, 8, 1, 0), (.aload_n 0, 0, 0, 0), (.getfield 25, 8, 2, 0), (.iload_n 1, 1, 0, 0), (.iastore, 0, 0, 0), (.aload_n 0, 0, 0, 0), (.dup, 0, 0, 0), (.getfield 25, 8, 2, 0), (.iconst 1, 1, 0, 0), (.iadd, 0, 0, 0), (.putfield 25, 8, 2, 0)], 1),
  ([(.return_, 0, 0, 0)], 0)]
-- 50: X9_beCalm
def bt_50 : List (List Op × Nat) := [
  ([(.aload_n 0, 0, 0, 0), (.getfield 9, 9, 0, 0), (.bipush 24, 24, 0, 0), (.invokestatic 15, 197, 2, 0), (.aload_n 0, 0, 0, 0), (.iconst 0, 0, 0, 0), (.putfield 21, 9, 1, 0), (.aload_n 0, 0, 0, 0), (.iconst 0, 0, 0, 0), (.putfield 25, 9, 2, 0), (.return_, 0, 0, 0)], 0)]
-- 51: X9_happen
def bt_51 : List (List Op × Nat) := [
  ([(.iload_n 1, 1, 0, 0), (.ifCond .ne 18, 1, 0, 0), (.aload_n 0, 0, 0, 0), (.dup, 0, 0, 0), (.getfield 21, 9, 1, 0), (.iconst 1, 1, 0, 0), (.iload_n 2, 2, 0, 0), (.ishl, 0, 0, 0), (.ior, 0, 0, 0), (.putfield 21, 9, 1, 0), (.goto 44, 3, 0, 0)], 0),
  ([(.iload_n 1, 1, 0, 0), (.iconst 1, 1, 0, 0), (.if_icmp .ne 18, 2, 0, 0), (.aload_n 0, 0, 0, 0), (.dup, 0, 0, 0), (.getfield 25, 9, 2, 0), (.iconst 1, 1, 0, 0), (.iload_n 2, 2, 0, 0), (.ishl, 0, 0, 0), (.ior, 0, 0, 0), (.putfield 25, 9, 2, 0), (.goto 24, 3, 0, 0)], 0),
  ([(.iload_n 1, 1, 0, 0), (.iconst 2, 2, 0, 0), (.if_icmp .ne 19, 3, 0, 0), (.aload_n 0, 0, 0, 0), (.getfield 9, 9, 0, 0), (.iload_n 3, 3, 0, 0), (.aload_n 0, 0, 0, 0), (.getfield 9, 9, 0, 0), (.iload_n 3, 3, 0, 0), (.iaload, 0, 0, 0), (.iload_n 2, 2, 0, 0), (.invokestatic 28, 998, 2, 0), (.iastore, 0, 0, 0)], 3),
  ([(.return_, 0, 0, 0)], 0)]
-- 52: X10_type
def bt_52 : List (List Op × Nat) := [
  ([(.iload_n 1, 1, 0, 0), (.iconst 1, 1, 0, 0), (.invokestatic 49, 93, 2, 0), (.ifCond .ne 13, 1, 0, 0), (.iload_n 2, 2, 0, 0), (.sipush 255, 255, 0, 0), (.invokestatic 49, 93, 2, 0), (.ifCond .eq 6, 2, 0, 0)], 1),
  ([(.bipush (-2), 2, 1, 0), (.ireturn, 0, 0, 0)], 0),
  ([(.aload_n 0, 0, 0, 0), (.getfield 10, 10, 0, 0), (.iload_n 1, 1, 0, 0), (.invokevirtual 53, 0, 1, 0), (.astore_n 3, 3, 0, 0), (.aload_n 3, 3, 0, 0), (.getfield 57, 8, 2, 0), (.aload_n 3, 3, 0, 0), (.getfield 62, 8, 0, 0), (.if_icmp .lt 6, 3, 0, 0), (.bipush (-4), 4, 1, 0), (.ireturn, 0, 0, 0)], 0),
  ([(.aload_n 3, 3, 0, 0), (.iload_n 2, 2, 0, 0), (.invokevirtual 65, 49, 1, 8), (.aload_n 0, 0, 0, 0), (.iload_n 1, 1, 0, 0), (.invokevirtual 69, 96, 1, 10), (.aload_n 3, 3, 0, 0), (.getfield 57, 8, 2, 0), (.ireturn, 0, 0, 0)], 0)]
-- 53: X10_wipe
def bt_53 : List (List Op × Nat) := [
  ([(.iload_n 1, 1, 0, 0), (.iconst 1, 1, 0, 0), (.invokestatic 49, 93, 2, 0), (.ifCond .eq 6, 1, 0, 0), (.bipush (-2), 2, 1, 0), (.ireturn, 0, 0, 0)], 0),
  ([(.aload_n 0, 0, 0, 0), (.getfield 10, 10, 0, 0), (.iload_n 1, 1, 0, 0), (.invokevirtual 53, 0, 1, 0), (.astore_n 2, 2, 0, 0), (.aload_n 2, 2, 0, 0), (.getfield 57, 8, 2, 0), (.istore_n 3, 3, 0, 0), (.aload_n 2, 2, 0, 0), (.iconst 0, 0, 0, 0), (.putfield 57, 8, 2, 0), (.aload_n 0, 0, 0, 0), (.iload_n 1, 1, 0, 0), (.invokevirtual 69, 96, 1, 10), (.iload_n 3, 3, 0, 0), (.ireturn, 0, 0, 0)], 0)]
-- 54: X10_undo
def bt_54 : List (List Op × Nat) := [
  ([(.iload_n 1, 1, 0, 0), (.iconst 1, 1, 0, 0), (.invokestatic 49, 93, 2, 0), (.ifCond .eq 6, 1, 0, 0), (.bipush (-2), 2, 1, 0), (.ireturn, 0, 0, 0)], 0),
  ([(.aload_n 0, 0, 0, 0), (.getfield 10, 10, 0, 0), (.iload_n 1, 1, 0, 0), (.invokevirtual 53, 0, 1, 0), (.astore_n 2, 2, 0, 0), (.aload_n 2, 2, 0, 0), (.getfield 57, 8, 2, 0), (.ifCond .ne 6, 2, 0, 0), (.bipush (-3), 3, 1, 0), (.ireturn, 0, 0, 0)], 0),
  ([(.aload_n 2, 2, 0, 0), (.dup, 0, 0, 0), (.getfield 57, 8, 2, 0), (.iconst 1, 1, 0, 0), (.isub, 0, 0, 0), (.putfield 57, 8, 2, 0), (.aload_n 0, 0, 0, 0), (.iload_n 1, 1, 0, 0), (.invokevirtual 69, 96, 1, 10), (.aload_n 2, 2, 0, 0), (.getfield 57, 8, 2, 0), (.ireturn, 0, 0, 0)], 0)]
-- 55: X10_fault
def bt_55 : List (List Op × Nat) := [
  ([(.iload_n 1, 1, 0, 0), (.iconst 1, 1, 0, 0), (.invokestatic 49, 93, 2, 0), (.ifCond .eq 6, 1, 0, 0), (.bipush (-2), 2, 1, 0), (.ireturn, 0, 0, 0)], 0),
  ([(.iload_n 1, 1, 0, 0), (.ifCond .ne 13, 2, 0, 0), (.aload_n 0, 0, 0, 0), (.getfield 10, 10, 0, 0), (.getfield 72, 0, 6, 0), (.goto 10, 3, 0, 0)], 0),
  ([(.aload_n 0, 0, 0, 0), (.getfield 10, 10, 0, 0), (.getfield 75, 0, 7, 0)], 3),
  ([(.ireturn, 0, 0, 0)], 0)]
-- 56: X10_told
def bt_56 : List (List Op × Nat) := [
  ([(.iload_n 1, 1, 0, 0), (.iconst 5, 5, 0, 0), (.invokestatic 49, 93, 2, 0), (.ifCond .ne 11, 1, 0, 0), (.iload_n 2, 2, 0, 0), (.iconst 5, 5, 0, 0), (.invokestatic 49, 93, 2, 0), (.ifCond .eq 6, 2, 0, 0)], 1),
  ([(.bipush (-2), 2, 1, 0), (.ireturn, 0, 0, 0)], 0),
  ([(.aload_n 0, 0, 0, 0), (.getfield 10, 10, 0, 0), (.getfield 78, 0, 2, 0), (.getfield 82, 6, 0, 0), (.iload_n 1, 1, 0, 0), (.bipush 6, 6, 0, 0), (.imul, 0, 0, 0), (.iload_n 2, 2, 0, 0), (.iadd, 0, 0, 0), (.iaload, 0, 0, 0), (.ireturn, 0, 0, 0)], 0)]
-- 57: X10_order
def bt_57 : List (List Op × Nat) := [
  ([(.iload_n 1, 1, 0, 0), (.aload_n 0, 0, 0, 0), (.getfield 10, 10, 0, 0), (.getfield 88, 0, 3, 0), (.getfield 92, 2, 2, 0), (.iconst 1, 1, 0, 0), (.isub, 0, 0, 0), (.invokestatic 49, 93, 2, 0), (.ifCond .ne 11, 1, 0, 0), (.iload_n 2, 2, 0, 0), (.iconst 1, 1, 0, 0), (.invokestatic 49, 93, 2, 0), (.ifCond .eq 6, 2, 0, 0)], 1),
  ([(.bipush (-2), 2, 1, 0), (.ireturn, 0, 0, 0)], 0),
  ([(.iload_n 2, 2, 0, 0), (.ifCond .ne 18, 3, 0, 0), (.aload_n 0, 0, 0, 0), (.getfield 10, 10, 0, 0), (.getfield 88, 0, 3, 0), (.getfield 97, 2, 0, 0), (.iload_n 1, 1, 0, 0), (.iaload, 0, 0, 0), (.goto 15, 4, 0, 0)], 0),
  ([(.aload_n 0, 0, 0, 0), (.getfield 10, 10, 0, 0), (.getfield 88, 0, 3, 0), (.getfield 100, 2, 1, 0), (.iload_n 1, 1, 0, 0), (.iaload, 0, 0, 0)], 4),
  ([(.ireturn, 0, 0, 0)], 0)]
-- 58: X10_event
def bt_58 : List (List Op × Nat) := [
  ([(.iload_n 1, 1, 0, 0), (.iload_n 2, 2, 0, 0), (.iload_n 3, 3, 0, 0), (.invokestatic 103, 6, 3, 0), (.ifCond .ne 6, 1, 0, 0), (.bipush (-2), 2, 1, 0), (.ireturn, 0, 0, 0)], 0),
  ([(.aload_n 0, 0, 0, 0), (.getfield 10, 10, 0, 0), (.getfield 109, 0, 4, 0), (.getfield 113, 1, 3, 0), (.bipush 8, 8, 0, 0), (.if_icmp .lt 6, 2, 0, 0), (.bipush (-4), 4, 1, 0), (.ireturn, 0, 0, 0)], 0),
  ([(.aload_n 0, 0, 0, 0), (.getfield 10, 10, 0, 0), (.getfield 109, 0, 4, 0), (.iload_n 1, 1, 0, 0), (.iload_n 2, 2, 0, 0), (.iload_n 3, 3, 0, 0), (.invokevirtual 114, 7, 3, 1), (.aload_n 0, 0, 0, 0), (.invokevirtual 117, 97, 0, 10), (.aload_n 0, 0, 0, 0), (.getfield 10, 10, 0, 0), (.getfield 109, 0, 4, 0), (.getfield 113, 1, 3, 0), (.ireturn, 0, 0, 0)], 0)]
-- 59: X10_back
def bt_59 : List (List Op × Nat) := [
  ([(.aload_n 0, 0, 0, 0), (.getfield 10, 10, 0, 0), (.getfield 109, 0, 4, 0), (.getfield 113, 1, 3, 0), (.ifCond .ne 6, 1, 0, 0), (.bipush (-3), 3, 1, 0), (.ireturn, 0, 0, 0)], 0),
  ([(.aload_n 0, 0, 0, 0), (.getfield 10, 10, 0, 0), (.getfield 109, 0, 4, 0), (.dup, 0, 0, 0), (.getfield 113, 1, 3, 0), (.iconst 1, 1, 0, 0), (.isub, 0, 0, 0), (.putfield 113, 1, 3, 0), (.aload_n 0, 0, 0, 0), (.invokevirtual 117, 97, 0, 10), (.aload_n 0, 0, 0, 0), (.getfield 10, 10, 0, 0), (.getfield 109, 0, 4, 0), (.getfield 113, 1, 3, 0), (.ireturn, 0, 0, 0)], 0)]
-- 60: X10_read
def bt_60 : List (List Op × Nat) := [
  ([(.iload_n 1, 1, 0, 0), (.iconst 3, 3, 0, 0), (.invokestatic 49, 93, 2, 0), (.ifCond .eq 6, 1, 0, 0), (.bipush (-2), 2, 1, 0), (.ireturn, 0, 0, 0)], 0),
  ([(.aload_n 0, 0, 0, 0), (.getfield 36, 10, 3, 0), (.iload_n 1, 1, 0, 0), (.aaload, 0, 0, 0), (.astore_n 2, 2, 0, 0), (.aload_n 2, 2, 0, 0), (.getfield 120, 5, 1, 0), (.iconst (-1), 1, 1, 0), (.if_icmp .ne 9, 2, 0, 0), (.aload_n 0, 0, 0, 0), (.iconst 1, 1, 0, 0), (.invokevirtual 123, 95, 1, 10), (.ireturn, 0, 0, 0)], 0),
  ([(.aload_n 0, 0, 0, 0), (.getfield 10, 10, 0, 0), (.getfield 109, 0, 4, 0), (.astore_n 3, 3, 0, 0), (.aload_n 3, 3, 0, 0), (.getfield 113, 1, 3, 0), (.istore 4, 4, 0, 0), (.iconst 0, 0, 0, 0), (.istore 5, 5, 0, 0)], 3),
  ([(.iload 5, 5, 0, 0), (.iconst 2, 2, 0, 0), (.iadd, 0, 0, 0), (.aload_n 2, 2, 0, 0), (.getfield 127, 5, 2, 0), (.if_icmp .ge 74, 5, 0, 0), (.aload_n 3, 3, 0, 0), (.getfield 113, 1, 3, 0), (.bipush 8, 8, 0, 0), (.if_icmp .ge 65, 5, 0, 0), (.aload_n 2, 2, 0, 0), (.getfield 128, 5, 0, 0), (.iload 5, 5, 0, 0), (.iaload, 0, 0, 0), (.istore 6, 6, 0, 0), (.aload_n 2, 2, 0, 0), (.getfield 128, 5, 0, 0), (.iload 5, 5, 0, 0), (.iconst 1, 1, 0, 0), (.iadd, 0, 0, 0), (.iaload, 0, 0, 0), (.istore 7, 7, 0, 0), (.aload_n 2, 2, 0, 0), (.getfield 128, 5, 0, 0), (.iload 5, 5, 0, 0), (.iconst 2, 2, 0, 0), (.iadd, 0, 0, 0), (.iaload, 0, 0, 0), (.istore 8, 8, 0, 0), (.iload 6, 6, 0, 0), (.iload 7, 7, 0, 0), (.iload 8, 8, 0, 0), (.invokestatic 103, 6, 3, 0), (.ifCond .ne 6, 4, 0, 0), (.goto 19, 5, 0, 0)], 0),
  ([(.aload_n 3, 3, 0, 0), (.iload 6, 6, 0, 0), (.iload 7, 7, 0, 0), (.iload 8, 8, 0, 0), (.invokevirtual 114, 7, 3, 1), (.iinc 5 3, 5, 3, 0), (.goto (-79), 3, 0, 0)], 0),
  ([(.aload_n 0, 0, 0, 0), (.invokevirtual 117, 97, 0, 10), (.aload_n 3, 3, 0, 0), (.getfield 113, 1, 3, 0), (.iload 4, 4, 0, 0), (.isub, 0, 0, 0), (.ireturn, 0, 0, 0)], 0)]
-- 61: X10_column
def bt_61 : List (List Op × Nat) := [
  ([(.iload_n 1, 1, 0, 0), (.bipush 23, 23, 0, 0), (.invokestatic 49, 93, 2, 0), (.ifCond .ne 19, 1, 0, 0), (.iload_n 2, 2, 0, 0), (.iconst 5, 5, 0, 0), (.invokestatic 49, 93, 2, 0), (.ifCond .ne 11, 1, 0, 0), (.iload_n 3, 3, 0, 0), (.iconst 1, 1, 0, 0), (.invokestatic 49, 93, 2, 0), (.ifCond .eq 6, 2, 0, 0)], 1),
  ([(.bipush (-2), 2, 1, 0), (.ireturn, 0, 0, 0)], 0),
  ([(.aload_n 0, 0, 0, 0), (.invokevirtual 131, 98, 0, 10), (.astore 4, 4, 0, 0), (.iload_n 3, 3, 0, 0), (.ifCond .ne 17, 3, 0, 0), (.aload 4, 4, 0, 0), (.getfield 135, 7, 6, 0), (.iload_n 1, 1, 0, 0), (.iaload, 0, 0, 0), (.iload_n 2, 2, 0, 0), (.invokestatic 138, 40, 2, 0), (.goto 10, 4, 0, 0)], 0),
  ([(.aload 4, 4, 0, 0), (.iload_n 1, 1, 0, 0), (.iload_n 2, 2, 0, 0), (.invokevirtual 142, 46, 2, 7)], 4),
  ([(.ireturn, 0, 0, 0)], 0)]
-- 62: X10_block
def bt_62 : List (List Op × Nat) := [
  ([(.iload_n 1, 1, 0, 0), (.bipush 23, 23, 0, 0), (.invokestatic 49, 93, 2, 0), (.ifCond .ne 19, 1, 0, 0), (.iload_n 2, 2, 0, 0), (.iconst 5, 5, 0, 0), (.invokestatic 49, 93, 2, 0), (.ifCond .ne 11, 1, 0, 0), (.iload_n 3, 3, 0, 0), (.iconst 5, 5, 0, 0), (.invokestatic 49, 93, 2, 0), (.ifCond .eq 6, 2, 0, 0)], 1),
  ([(.bipush (-2), 2, 1, 0), (.ireturn, 0, 0, 0)], 0),
  ([(.aload_n 0, 0, 0, 0), (.invokevirtual 131, 98, 0, 10), (.getfield 145, 7, 7, 0), (.iload_n 1, 1, 0, 0), (.bipush 36, 36, 0, 0), (.imul, 0, 0, 0), (.iload_n 2, 2, 0, 0), (.bipush 6, 6, 0, 0), (.imul, 0, 0, 0), (.iadd, 0, 0, 0), (.iload_n 3, 3, 0, 0), (.iadd, 0, 0, 0), (.iaload, 0, 0, 0), (.ireturn, 0, 0, 0)], 0)]
-- 63: X10_ice
def bt_63 : List (List Op × Nat) := [
  ([(.iload_n 1, 1, 0, 0), (.bipush 23, 23, 0, 0), (.invokestatic 49, 93, 2, 0), (.ifCond .ne 11, 1, 0, 0), (.iload_n 2, 2, 0, 0), (.iconst 1, 1, 0, 0), (.invokestatic 49, 93, 2, 0), (.ifCond .eq 6, 2, 0, 0)], 1),
  ([(.bipush (-2), 2, 1, 0), (.ireturn, 0, 0, 0)], 0),
  ([(.iload_n 2, 2, 0, 0), (.ifCond .ne 15, 3, 0, 0), (.aload_n 0, 0, 0, 0), (.invokevirtual 131, 98, 0, 10), (.getfield 148, 7, 4, 0), (.iload_n 1, 1, 0, 0), (.iaload, 0, 0, 0), (.goto 12, 4, 0, 0)], 0),
  ([(.aload_n 0, 0, 0, 0), (.invokevirtual 131, 98, 0, 10), (.getfield 151, 7, 5, 0), (.iload_n 1, 1, 0, 0), (.iaload, 0, 0, 0)], 4),
  ([(.ireturn, 0, 0, 0)], 0)]
-- 64: X10_got
def bt_64 : List (List Op × Nat) := [
  ([(.iload_n 1, 1, 0, 0), (.aload_n 0, 0, 0, 0), (.getfield 10, 10, 0, 0), (.getfield 88, 0, 3, 0), (.getfield 92, 2, 2, 0), (.iconst 1, 1, 0, 0), (.isub, 0, 0, 0), (.invokestatic 49, 93, 2, 0), (.ifCond .ne 11, 1, 0, 0), (.iload_n 2, 2, 0, 0), (.iconst 1, 1, 0, 0), (.invokestatic 49, 93, 2, 0), (.ifCond .eq 6, 2, 0, 0)], 1),
  ([(.bipush (-2), 2, 1, 0), (.ireturn, 0, 0, 0)], 0),
  ([(.aload_n 0, 0, 0, 0), (.invokevirtual 131, 98, 0, 10), (.astore_n 3, 3, 0, 0), (.iload_n 2, 2, 0, 0), (.ifCond .ne 12, 3, 0, 0), (.aload_n 3, 3, 0, 0), (.getfield 154, 7, 3, 0), (.iload_n 1, 1, 0, 0), (.iaload, 0, 0, 0), (.goto 11, 4, 0, 0)], 0),
  ([(.aload_n 3, 3, 0, 0), (.getfield 157, 7, 10, 0), (.iload_n 1, 1, 0, 0), (.ishr, 0, 0, 0), (.iconst 1, 1, 0, 0), (.iand, 0, 0, 0)], 4),
  ([(.ireturn, 0, 0, 0)], 0)]
-- 65: X10_sum
def bt_65 : List (List Op × Nat) := [
  ([(.iload_n 1, 1, 0, 0), (.iconst 1, 1, 0, 0), (.invokestatic 49, 93, 2, 0), (.ifCond .eq 6, 1, 0, 0), (.bipush (-2), 2, 1, 0), (.ireturn, 0, 0, 0)], 0),
  ([(.iload_n 1, 1, 0, 0), (.ifCond .ne 13, 2, 0, 0), (.aload_n 0, 0, 0, 0), (.invokevirtual 131, 98, 0, 10), (.invokevirtual 160, 47, 0, 7), (.goto 10, 3, 0, 0)], 0),
  ([(.aload_n 0, 0, 0, 0), (.invokevirtual 131, 98, 0, 10), (.invokevirtual 164, 48, 0, 7)], 3),
  ([(.ireturn, 0, 0, 0)], 0)]
-- 66: X10_bare
def bt_66 : List (List Op × Nat) := [
  ([(.iload_n 1, 1, 0, 0), (.iconst 5, 5, 0, 0), (.invokestatic 49, 93, 2, 0), (.ifCond .eq 6, 1, 0, 0), (.bipush (-2), 2, 1, 0), (.ireturn, 0, 0, 0)], 0),
  ([(.aload_n 0, 0, 0, 0), (.invokevirtual 131, 98, 0, 10), (.astore_n 2, 2, 0, 0), (.iconst 0, 0, 0, 0), (.istore_n 3, 3, 0, 0)], 2),
  ([(.iload_n 3, 3, 0, 0), (.bipush 24, 24, 0, 0), (.if_icmp .ge 24, 4, 0, 0), (.aload_n 2, 2, 0, 0), (.getfield 135, 7, 6, 0), (.iload_n 3, 3, 0, 0), (.iaload, 0, 0, 0), (.iload_n 1, 1, 0, 0), (.invokestatic 138, 40, 2, 0), (.ifCond .ne 5, 3, 0, 0), (.iload_n 3, 3, 0, 0), (.ireturn, 0, 0, 0)], 0),
  ([(.iinc 3 1, 3, 1, 0), (.goto (-24), 2, 0, 0)], 0),
  ([(.iconst (-1), 1, 1, 0), (.ireturn, 0, 0, 0)], 0)]
-- 67: X10_last
def bt_67 : List (List Op × Nat) := [
  ([(.aload_n 0, 0, 0, 0), (.invokevirtual 131, 98, 0, 10), (.astore_n 1, 1, 0, 0), (.iconst 0, 0, 0, 0), (.istore_n 2, 2, 0, 0)], 1),
  ([(.iload_n 2, 2, 0, 0), (.bipush 24, 24, 0, 0), (.if_icmp .ge 20, 3, 0, 0), (.aload_n 1, 1, 0, 0), (.getfield 148, 7, 4, 0), (.iload_n 2, 2, 0, 0), (.iaload, 0, 0, 0), (.ifCond .ne 5, 2, 0, 0), (.iload_n 2, 2, 0, 0), (.ireturn, 0, 0, 0)], 0),
  ([(.iinc 2 1, 2, 1, 0), (.goto (-20), 1, 0, 0)], 0),
  ([(.iconst (-1), 1, 1, 0), (.ireturn, 0, 0, 0)], 0)]
-- 68: X10_tall
def bt_68 : List (List Op × Nat) := [
  ([(.aload_n 0, 0, 0, 0), (.invokevirtual 131, 98, 0, 10), (.getfield 135, 7, 6, 0), (.bipush 23, 23, 0, 0), (.iaload, 0, 0, 0), (.istore_n 1, 1, 0, 0), (.iconst 0, 0, 0, 0), (.istore_n 2, 2, 0, 0), (.iconst 1, 1, 0, 0), (.istore_n 3, 3, 0, 0)], 1),
  ([(.iload_n 3, 3, 0, 0), (.bipush 6, 6, 0, 0), (.if_icmp .ge 24, 3, 0, 0), (.iload_n 1, 1, 0, 0), (.iload_n 3, 3, 0, 0), (.invokestatic 138, 40, 2, 0), (.iload_n 1, 1, 0, 0), (.iload_n 2, 2, 0, 0), (.invokestatic 138, 40, 2, 0), (.if_icmp .le 5, 2, 0, 0), (.iload_n 3, 3, 0, 0), (.istore_n 2, 2, 0, 0)], 2),
  ([(.iinc 3 1, 3, 1, 0), (.goto (-24), 1, 0, 0)], 0),
  ([(.iload_n 2, 2, 0, 0), (.ireturn, 0, 0, 0)], 0)]
-- 69: X10_drain
def bt_69 : List (List Op × Nat) := [
  ([(.iload_n 1, 1, 0, 0), (.iconst 1, 1, 0, 0), (.invokestatic 49, 93, 2, 0), (.ifCond .eq 6, 1, 0, 0), (.bipush (-2), 2, 1, 0), (.ireturn, 0, 0, 0)], 0),
  ([(.aload_n 0, 0, 0, 0), (.invokevirtual 131, 98, 0, 10), (.getfield 151, 7, 5, 0), (.astore_n 2, 2, 0, 0), (.iconst 0, 0, 0, 0), (.istore_n 3, 3, 0, 0), (.iconst 1, 1, 0, 0), (.istore 4, 4, 0, 0)], 2),
  ([(.iload 4, 4, 0, 0), (.bipush 24, 24, 0, 0), (.if_icmp .ge 22, 4, 0, 0), (.aload_n 2, 2, 0, 0), (.iload 4, 4, 0, 0), (.iaload, 0, 0, 0), (.aload_n 2, 2, 0, 0), (.iload_n 3, 3, 0, 0), (.iaload, 0, 0, 0), (.if_icmp .le 6, 3, 0, 0), (.iload 4, 4, 0, 0), (.istore_n 3, 3, 0, 0)], 3),
  ([(.iinc 4 1, 4, 1, 0), (.goto (-23), 2, 0, 0)], 0),
  ([(.iload_n 1, 1, 0, 0), (.ifCond .ne 7, 5, 0, 0), (.iload_n 3, 3, 0, 0), (.goto 6, 6, 0, 0)], 0),
  ([(.aload_n 2, 2, 0, 0), (.iload_n 3, 3, 0, 0), (.iaload, 0, 0, 0)], 6),
  ([(.ireturn, 0, 0, 0)], 0)]
-- 70: X10_cover
def bt_70 : List (List Op × Nat) := [
  ([(.iload_n 1, 1, 0, 0), (.iconst 1, 1, 0, 0), (.invokestatic 49, 93, 2, 0), (.ifCond .eq 6, 1, 0, 0), (.bipush (-2), 2, 1, 0), (.ireturn, 0, 0, 0)], 0),
  ([(.aload_n 0, 0, 0, 0), (.getfield 21, 10, 1, 0), (.invokevirtual 167, 9, 0, 3), (.iload_n 1, 1, 0, 0), (.ifCond .ne 13, 2, 0, 0), (.aload_n 0, 0, 0, 0), (.getfield 21, 10, 1, 0), (.getfield 170, 3, 5, 0), (.goto 10, 3, 0, 0)], 0),
  ([(.aload_n 0, 0, 0, 0), (.getfield 21, 10, 1, 0), (.getfield 173, 3, 7, 0)], 3),
  ([(.ireturn, 0, 0, 0)], 0)]
-- 71: X10_swap
def bt_71 : List (List Op × Nat) := [
  ([(.iload_n 1, 1, 0, 0), (.iconst 2, 2, 0, 0), (.invokestatic 49, 93, 2, 0), (.ifCond .eq 6, 1, 0, 0), (.bipush (-2), 2, 1, 0), (.ireturn, 0, 0, 0)], 0),
  ([(.aload_n 0, 0, 0, 0), (.getfield 21, 10, 1, 0), (.invokevirtual 176, 10, 0, 3), (.iload_n 1, 1, 0, 0), (.ifCond .ne 13, 2, 0, 0), (.aload_n 0, 0, 0, 0), (.getfield 21, 10, 1, 0), (.getfield 170, 3, 5, 0), (.goto 25, 4, 0, 0)], 0),
  ([(.iload_n 1, 1, 0, 0), (.iconst 1, 1, 0, 0), (.if_icmp .ne 13, 3, 0, 0), (.aload_n 0, 0, 0, 0), (.getfield 21, 10, 1, 0), (.getfield 179, 3, 6, 0), (.goto 10, 4, 0, 0)], 0),
  ([(.aload_n 0, 0, 0, 0), (.getfield 21, 10, 1, 0), (.getfield 173, 3, 7, 0)], 4),
  ([(.ireturn, 0, 0, 0)], 0)]
-- 72: X10_later
def bt_72 : List (List Op × Nat) := [
  ([(.iload_n 1, 1, 0, 0), (.aload_n 0, 0, 0, 0), (.getfield 10, 10, 0, 0), (.getfield 88, 0, 3, 0), (.getfield 92, 2, 2, 0), (.iconst 1, 1, 0, 0), (.isub, 0, 0, 0), (.invokestatic 49, 93, 2, 0), (.ifCond .ne 11, 1, 0, 0), (.iload_n 2, 2, 0, 0), (.iconst 1, 1, 0, 0), (.invokestatic 49, 93, 2, 0), (.ifCond .eq 6, 2, 0, 0)], 1),
  ([(.bipush (-2), 2, 1, 0), (.ireturn, 0, 0, 0)], 0),
  ([(.aload_n 0, 0, 0, 0), (.getfield 21, 10, 1, 0), (.iload_n 1, 1, 0, 0), (.invokevirtual 182, 11, 1, 3), (.iload_n 2, 2, 0, 0), (.ifCond .ne 13, 3, 0, 0), (.aload_n 0, 0, 0, 0), (.getfield 21, 10, 1, 0), (.getfield 170, 3, 5, 0), (.goto 10, 4, 0, 0)], 0),
  ([(.aload_n 0, 0, 0, 0), (.getfield 21, 10, 1, 0), (.getfield 173, 3, 7, 0)], 4),
  ([(.ireturn, 0, 0, 0)], 0)]
-- 73: X10_spare
def bt_73 : List (List Op × Nat) := [
  ([(.iload_n 1, 1, 0, 0), (.iconst (-1), 1, 1, 0), (.if_icmp .lt 8, 1, 0, 0), (.iload_n 1, 1, 0, 0), (.iconst 1, 1, 0, 0), (.if_icmp .le 6, 2, 0, 0)], 1),
  ([(.bipush (-2), 2, 1, 0), (.ireturn, 0, 0, 0)], 0),
  ([(.aload_n 0, 0, 0, 0), (.getfield 21, 10, 1, 0), (.invokevirtual 185, 14, 0, 3), (.iload_n 1, 1, 0, 0), (.iconst (-1), 1, 1, 0), (.if_icmp .ne 13, 3, 0, 0), (.aload_n 0, 0, 0, 0), (.getfield 21, 10, 1, 0), (.getfield 173, 3, 7, 0), (.goto 24, 5, 0, 0)], 0),
  ([(.iload_n 1, 1, 0, 0), (.ifCond .ne 13, 4, 0, 0), (.aload_n 0, 0, 0, 0), (.getfield 21, 10, 1, 0), (.getfield 170, 3, 5, 0), (.goto 10, 5, 0, 0)], 0),
  ([(.aload_n 0, 0, 0, 0), (.getfield 21, 10, 1, 0), (.getfield 179, 3, 6, 0)], 5),
  ([(.ireturn, 0, 0, 0)], 0)]
-- 74: X10_seen
def bt_74 : List (List Op × Nat) := [
  ([(.iload_n 1, 1, 0, 0), (.bipush 23, 23, 0, 0), (.invokestatic 49, 93, 2, 0), (.ifCond .ne 20, 1, 0, 0), (.iload_n 2, 2, 0, 0), (.iconst 5, 5, 0, 0), (.invokestatic 49, 93, 2, 0), (.ifCond .ne 12, 1, 0, 0), (.iload_n 3, 3, 0, 0), (.bipush 6, 6, 0, 0), (.invokestatic 49, 93, 2, 0), (.ifCond .eq 6, 2, 0, 0)], 1),
  ([(.bipush (-2), 2, 1, 0), (.ireturn, 0, 0, 0)], 0),
  ([(.aload_n 0, 0, 0, 0), (.getfield 10, 10, 0, 0), (.getfield 188, 0, 5, 0), (.getfield 192, 4, 3, 0), (.bipush 8, 8, 0, 0), (.if_icmp .lt 6, 3, 0, 0), (.bipush (-4), 4, 1, 0), (.ireturn, 0, 0, 0)], 0),
  ([(.aload_n 0, 0, 0, 0), (.getfield 10, 10, 0, 0), (.getfield 188, 0, 5, 0), (.iload_n 1, 1, 0, 0), (.iload_n 2, 2, 0, 0), (.iload_n 3, 3, 0, 0), (.invokevirtual 195, 25, 3, 4), (.aload_n 0, 0, 0, 0), (.getfield 10, 10, 0, 0), (.getfield 188, 0, 5, 0), (.getfield 192, 4, 3, 0), (.ireturn, 0, 0, 0)], 0)]
-- 75: X10_forget
def bt_75 : List (List Op × Nat) := [
  ([(.aload_n 0, 0, 0, 0), (.getfield 10, 10, 0, 0), (.getfield 188, 0, 5, 0), (.getfield 192, 4, 3, 0), (.istore_n 1, 1, 0, 0), (.aload_n 0, 0, 0, 0), (.getfield 10, 10, 0, 0), (.getfield 188, 0, 5, 0), (.iconst 0, 0, 0, 0), (.putfield 192, 4, 3, 0), (.iload_n 1, 1, 0, 0), (.ireturn, 0, 0, 0)], 0)]
-- 76: X10_never
def bt_76 : List (List Op × Nat) := [
  ([(.aload_n 0, 0, 0, 0), (.getfield 21, 10, 1, 0), (.invokevirtual 196, 15, 0, 3), (.ireturn, 0, 0, 0)], 0)]
-- 77: X10_size
def bt_77 : List (List Op × Nat) := [
  ([(.aload_n 0, 0, 0, 0), (.iload_n 1, 1, 0, 0), (.iload_n 2, 2, 0, 0), (.invokevirtual 199, 94, 2, 10), (.ifCond .eq 8, 1, 0, 0), (.bipush (-2), 2, 1, 0), (.goto 12, 2, 0, 0)], 0),
  ([(.aload_n 0, 0, 0, 0), (.getfield 21, 10, 1, 0), (.iload_n 1, 1, 0, 0), (.iload_n 2, 2, 0, 0), (.invokevirtual 202, 16, 2, 3)], 2),
  ([(.ireturn, 0, 0, 0)], 0)]
-- 78: X10_ask
def bt_78 : List (List Op × Nat) := [
  ([(.aload_n 0, 0, 0, 0), (.iload_n 1, 1, 0, 0), (.iload_n 2, 2, 0, 0), (.invokevirtual 199, 94, 2, 10), (.ifCond .eq 8, 1, 0, 0), (.bipush (-2), 2, 1, 0), (.goto 19, 2, 0, 0)], 0),
  ([(.aload_n 0, 0, 0, 0), (.getfield 21, 10, 1, 0), (.aload_n 0, 0, 0, 0), (.getfield 21, 10, 1, 0), (.iload_n 1, 1, 0, 0), (.iload_n 2, 2, 0, 0), (.invokevirtual 202, 16, 2, 3), (.invokevirtual 205, 17, 1, 3)], 2),
  ([(.ireturn, 0, 0, 0)], 0)]
-- 79: X10_chance
def bt_79 : List (List Op × Nat) := [
  ([(.iload_n 1, 1, 0, 0), (.bipush 16, 16, 0, 0), (.invokestatic 49, 93, 2, 0), (.ifCond .ne 30, 1, 0, 0), (.iload_n 2, 2, 0, 0), (.aload_n 0, 0, 0, 0), (.getfield 10, 10, 0, 0), (.getfield 88, 0, 3, 0), (.getfield 92, 2, 2, 0), (.iconst 1, 1, 0, 0), (.isub, 0, 0, 0), (.invokestatic 49, 93, 2, 0), (.ifCond .ne 11, 1, 0, 0), (.iload_n 3, 3, 0, 0), (.iconst 1, 1, 0, 0), (.invokestatic 49, 93, 2, 0), (.ifCond .eq 7, 2, 0, 0)], 1),
  ([(.ldc2_w 208, 9223372036854775806, 1, 0), (.lreturn, 0, 0, 0)], 0),
  ([(.aload_n 0, 0, 0, 0), (.getfield 21, 10, 1, 0), (.iload_n 1, 1, 0, 0), (.iload_n 2, 2, 0, 0), (.invokevirtual 210, 19, 2, 3), (.iload_n 3, 3, 0, 0), (.ifCond .ne 13, 3, 0, 0), (.aload_n 0, 0, 0, 0), (.getfield 21, 10, 1, 0), (.getfield 214, 3, 8, 0), (.goto 10, 4, 0, 0)], 0),
  ([(.aload_n 0, 0, 0, 0), (.getfield 21, 10, 1, 0), (.getfield 218, 3, 9, 0)], 4),
  ([(.lreturn, 0, 0, 0)], 0)]
-- 80: X10_summers
def bt_80 : List (List Op × Nat) := [
  ([(.iload_n 2, 2, 0, 0), (.bipush 8, 8, 0, 0), (.invokestatic 49, 93, 2, 0), (.ifCond .ne 11, 1, 0, 0), (.iload_n 3, 3, 0, 0), (.iconst 1, 1, 0, 0), (.invokestatic 49, 93, 2, 0), (.ifCond .eq 6, 2, 0, 0)], 1),
  ([(.bipush (-2), 2, 1, 0), (.ireturn, 0, 0, 0)], 0),
  ([(.aload_n 0, 0, 0, 0), (.getfield 21, 10, 1, 0), (.iload_n 1, 1, 0, 0), (.iload_n 2, 2, 0, 0), (.invokevirtual 221, 22, 2, 3), (.astore 4, 4, 0, 0), (.iload_n 3, 3, 0, 0), (.ifCond .ne 14, 3, 0, 0), (.aload 4, 4, 0, 0), (.getfield 148, 7, 4, 0), (.bipush 23, 23, 0, 0), (.iaload, 0, 0, 0), (.goto 8, 4, 0, 0)], 0),
  ([(.aload 4, 4, 0, 0), (.invokevirtual 164, 48, 0, 7)], 4),
  ([(.ireturn, 0, 0, 0)], 0)]
-- 81: X10_sheet
def bt_81 : List (List Op × Nat) := [
  ([(.iload_n 1, 1, 0, 0), (.iconst 3, 3, 0, 0), (.invokestatic 49, 93, 2, 0), (.ifCond .ne 17, 1, 0, 0), (.iload_n 2, 2, 0, 0), (.iconst 2, 2, 0, 0), (.invokestatic 49, 93, 2, 0), (.ifCond .ne 9, 1, 0, 0), (.iload_n 3, 3, 0, 0), (.bipush 60, 60, 0, 0), (.if_icmp .le 6, 2, 0, 0)], 1),
  ([(.bipush (-2), 2, 1, 0), (.ireturn, 0, 0, 0)], 0),
  ([(.iload_n 3, 3, 0, 0), (.ifCond .ge 9, 3, 0, 0), (.aload_n 0, 0, 0, 0), (.iconst 5, 5, 0, 0), (.invokevirtual 123, 95, 1, 10), (.ireturn, 0, 0, 0)], 0),
  ([(.aload_n 0, 0, 0, 0), (.getfield 36, 10, 3, 0), (.iload_n 1, 1, 0, 0), (.aaload, 0, 0, 0), (.iload_n 2, 2, 0, 0), (.iload_n 3, 3, 0, 0), (.invokevirtual 225, 27, 2, 5), (.iload_n 3, 3, 0, 0), (.ireturn, 0, 0, 0)], 0)]
-- 82: X10_lose
def bt_82 : List (List Op × Nat) := [
  ([(.iload_n 1, 1, 0, 0), (.iconst 3, 3, 0, 0), (.invokestatic 49, 93, 2, 0), (.ifCond .eq 6, 1, 0, 0), (.bipush (-2), 2, 1, 0), (.ireturn, 0, 0, 0)], 0),
  ([(.aload_n 0, 0, 0, 0), (.getfield 36, 10, 3, 0), (.iload_n 1, 1, 0, 0), (.aaload, 0, 0, 0), (.astore_n 2, 2, 0, 0), (.aload_n 2, 2, 0, 0), (.getfield 120, 5, 1, 0), (.iconst (-1), 1, 1, 0), (.if_icmp .ne 9, 2, 0, 0), (.aload_n 0, 0, 0, 0), (.iconst 1, 1, 0, 0), (.invokevirtual 123, 95, 1, 10), (.ireturn, 0, 0, 0)], 0),
  ([(.aload_n 2, 2, 0, 0), (.iconst (-1), 1, 1, 0), (.putfield 120, 5, 1, 0), (.aload_n 2, 2, 0, 0), (.getfield 127, 5, 2, 0), (.ireturn, 0, 0, 0)], 0)]
-- 83: X10_lay
def bt_83 : List (List Op × Nat) := [
  ([(.iload_n 1, 1, 0, 0), (.iconst 3, 3, 0, 0), (.invokestatic 49, 93, 2, 0), (.ifCond .ne 11, 1, 0, 0), (.iload_n 2, 2, 0, 0), (.iconst 2, 2, 0, 0), (.invokestatic 49, 93, 2, 0), (.ifCond .eq 6, 2, 0, 0)], 1),
  ([(.bipush (-2), 2, 1, 0), (.ireturn, 0, 0, 0)], 0),
  ([(.aload_n 0, 0, 0, 0), (.getfield 36, 10, 3, 0), (.iload_n 1, 1, 0, 0), (.aaload, 0, 0, 0), (.iload_n 2, 2, 0, 0), (.iload_n 3, 3, 0, 0), (.invokevirtual 228, 28, 2, 5), (.istore 5, 5, 0, 0), (.iload 5, 5, 0, 0), (.ifCond .eq 10, 3, 0, 0), (.aload_n 0, 0, 0, 0), (.iload 5, 5, 0, 0), (.invokevirtual 123, 95, 1, 10), (.ireturn, 0, 0, 0)], 0),
  ([(.aload_n 0, 0, 0, 0), (.getfield 36, 10, 3, 0), (.iload_n 1, 1, 0, 0), (.aaload, 0, 0, 0), (.iload_n 3, 3, 0, 0), (.iload 4, 4, 0, 0), (.invokevirtual 231, 30, 2, 5), (.iconst 1, 1, 0, 0), (.ireturn, 0, 0, 0)], 0)]
-- 84: X10_get
def bt_84 : List (List Op × Nat) := [
  ([(.iload_n 1, 1, 0, 0), (.iconst 3, 3, 0, 0), (.invokestatic 49, 93, 2, 0), (.ifCond .ne 11, 1, 0, 0), (.iload_n 2, 2, 0, 0), (.iconst 2, 2, 0, 0), (.invokestatic 49, 93, 2, 0), (.ifCond .eq 6, 2, 0, 0)], 1),
  ([(.ldc 234, 2147483648, 1, 0), (.ireturn, 0, 0, 0)], 0),
  ([(.aload_n 0, 0, 0, 0), (.getfield 36, 10, 3, 0), (.iload_n 1, 1, 0, 0), (.aaload, 0, 0, 0), (.iload_n 2, 2, 0, 0), (.iload_n 3, 3, 0, 0), (.invokevirtual 228, 28, 2, 5), (.istore 4, 4, 0, 0), (.iload 4, 4, 0, 0), (.ifCond .eq 12, 3, 0, 0), (.aload_n 0, 0, 0, 0), (.iload 4, 4, 0, 0), (.putfield 45, 10, 5, 0), (.ldc 234, 2147483648, 1, 0), (.ireturn, 0, 0, 0)], 0),
  ([(.aload_n 0, 0, 0, 0), (.getfield 36, 10, 3, 0), (.iload_n 1, 1, 0, 0), (.aaload, 0, 0, 0), (.getfield 128, 5, 0, 0), (.iload_n 3, 3, 0, 0), (.iaload, 0, 0, 0), (.ireturn, 0, 0, 0)], 0)]
-- 85: X10_copy
def bt_85 : List (List Op × Nat) := [
  ([(.iload_n 1, 1, 0, 0), (.iconst 3, 3, 0, 0), (.invokestatic 49, 93, 2, 0), (.ifCond .ne 11, 1, 0, 0), (.iload_n 3, 3, 0, 0), (.iconst 3, 3, 0, 0), (.invokestatic 49, 93, 2, 0), (.ifCond .eq 6, 2, 0, 0)], 1),
  ([(.bipush (-2), 2, 1, 0), (.ireturn, 0, 0, 0)], 0),
  ([(.aload_n 0, 0, 0, 0), (.getfield 36, 10, 3, 0), (.iload_n 1, 1, 0, 0), (.aaload, 0, 0, 0), (.astore 6, 6, 0, 0), (.aload_n 0, 0, 0, 0), (.getfield 36, 10, 3, 0), (.iload_n 3, 3, 0, 0), (.aaload, 0, 0, 0), (.astore 7, 7, 0, 0), (.aload 6, 6, 0, 0), (.getfield 120, 5, 1, 0), (.iconst (-1), 1, 1, 0), (.if_icmp .eq 12, 3, 0, 0), (.aload 7, 7, 0, 0), (.getfield 120, 5, 1, 0), (.iconst (-1), 1, 1, 0), (.if_icmp .ne 9, 4, 0, 0)], 3),
  ([(.aload_n 0, 0, 0, 0), (.iconst 1, 1, 0, 0), (.invokevirtual 123, 95, 1, 10), (.ireturn, 0, 0, 0)], 0),
  ([(.aload 6, 6, 0, 0), (.getfield 120, 5, 1, 0), (.aload 7, 7, 0, 0), (.getfield 120, 5, 1, 0), (.if_icmp .eq 9, 5, 0, 0), (.aload_n 0, 0, 0, 0), (.iconst 4, 4, 0, 0), (.invokevirtual 123, 95, 1, 10), (.ireturn, 0, 0, 0)], 0),
  ([(.aload 6, 6, 0, 0), (.iload_n 2, 2, 0, 0), (.iload 5, 5, 0, 0), (.invokevirtual 235, 29, 2, 5), (.ifCond .eq 15, 6, 0, 0), (.aload 7, 7, 0, 0), (.iload 4, 4, 0, 0), (.iload 5, 5, 0, 0), (.invokevirtual 235, 29, 2, 5), (.ifCond .ne 9, 7, 0, 0)], 6),
  ([(.aload_n 0, 0, 0, 0), (.iconst 2, 2, 0, 0), (.invokevirtual 123, 95, 1, 10), (.ireturn, 0, 0, 0)], 0),
  ([(.aload 6, 6, 0, 0), (.getfield 128, 5, 0, 0), (.iload_n 2, 2, 0, 0), (.aload 7, 7, 0, 0), (.getfield 128, 5, 0, 0), (.iload 4, 4, 0, 0), (.iload 5, 5, 0, 0), (.invokestatic 238, 999, 5, 0), (.iconst 1, 1, 0, 0), (.ireturn, 0, 0, 0)], 0)]
-- 86: X10_write
def bt_86 : List (List Op × Nat) := [
  ([(.iload_n 1, 1, 0, 0), (.iconst 5, 5, 0, 0), (.invokestatic 49, 93, 2, 0), (.ifCond .ne 11, 1, 0, 0), (.iload_n 2, 2, 0, 0), (.iconst 3, 3, 0, 0), (.invokestatic 49, 93, 2, 0), (.ifCond .eq 6, 2, 0, 0)], 1),
  ([(.bipush (-2), 2, 1, 0), (.ireturn, 0, 0, 0)], 0),
  ([(.aload_n 0, 0, 0, 0), (.getfield 36, 10, 3, 0), (.iload_n 2, 2, 0, 0), (.aaload, 0, 0, 0), (.astore_n 3, 3, 0, 0), (.aload_n 3, 3, 0, 0), (.getfield 120, 5, 1, 0), (.iconst (-1), 1, 1, 0), (.if_icmp .ne 9, 3, 0, 0), (.aload_n 0, 0, 0, 0), (.iconst 1, 1, 0, 0), (.invokevirtual 123, 95, 1, 10), (.ireturn, 0, 0, 0)], 0),
  ([(.aload_n 3, 3, 0, 0), (.getfield 127, 5, 2, 0), (.bipush 24, 24, 0, 0), (.invokestatic 244, 998, 2, 0), (.istore 4, 4, 0, 0), (.aload_n 0, 0, 0, 0), (.invokevirtual 131, 98, 0, 10), (.astore 5, 5, 0, 0), (.iconst 0, 0, 0, 0), (.istore 6, 6, 0, 0)], 4),
  ([(.iload 6, 6, 0, 0), (.iload 4, 4, 0, 0), (.if_icmp .ge 23, 5, 0, 0), (.aload_n 3, 3, 0, 0), (.iload 6, 6, 0, 0), (.aload 5, 5, 0, 0), (.iload 6, 6, 0, 0), (.iload_n 1, 1, 0, 0), (.invokevirtual 142, 46, 2, 7), (.invokevirtual 231, 30, 2, 5), (.iinc 6 1, 6, 1, 0), (.goto (-24), 4, 0, 0)], 0),
  ([(.iload 4, 4, 0, 0), (.ireturn, 0, 0, 0)], 0)]
-- 87: X10_count
def bt_87 : List (List Op × Nat) := [
  ([(.iload_n 1, 1, 0, 0), (.tableswitch 141 0 8 #[51, 62, 73, 84, 95, 106, 117, 125, 136], 0, 0, 0)], 0),
  ([(.aload_n 0, 0, 0, 0), (.getfield 10, 10, 0, 0), (.getfield 78, 0, 2, 0), (.invokevirtual 249, 37, 0, 6), (.ireturn, 0, 0, 0)], 0),
  ([(.aload_n 0, 0, 0, 0), (.getfield 10, 10, 0, 0), (.getfield 88, 0, 3, 0), (.getfield 92, 2, 2, 0), (.ireturn, 0, 0, 0)], 0),
  ([(.aload_n 0, 0, 0, 0), (.getfield 10, 10, 0, 0), (.getfield 252, 0, 0, 0), (.getfield 57, 8, 2, 0), (.ireturn, 0, 0, 0)], 0),
  ([(.aload_n 0, 0, 0, 0), (.getfield 10, 10, 0, 0), (.getfield 256, 0, 1, 0), (.getfield 57, 8, 2, 0), (.ireturn, 0, 0, 0)], 0),
  ([(.aload_n 0, 0, 0, 0), (.getfield 10, 10, 0, 0), (.getfield 109, 0, 4, 0), (.getfield 113, 1, 3, 0), (.ireturn, 0, 0, 0)], 0),
  ([(.aload_n 0, 0, 0, 0), (.invokevirtual 131, 98, 0, 10), (.getfield 148, 7, 4, 0), (.bipush 23, 23, 0, 0), (.iaload, 0, 0, 0), (.ireturn, 0, 0, 0)], 0),
  ([(.aload_n 0, 0, 0, 0), (.invokevirtual 131, 98, 0, 10), (.invokevirtual 164, 48, 0, 7), (.ireturn, 0, 0, 0)], 0),
  ([(.aload_n 0, 0, 0, 0), (.getfield 10, 10, 0, 0), (.getfield 188, 0, 5, 0), (.getfield 192, 4, 3, 0), (.ireturn, 0, 0, 0)], 0),
  ([(.aload_n 0, 0, 0, 0), (.getfield 45, 10, 5, 0), (.ireturn, 0, 0, 0)], 0),
  ([(.bipush (-2), 2, 1, 0), (.ireturn, 0, 0, 0)], 0)]
-- 88: X10_digest
def bt_88 : List (List Op × Nat) := [
  ([(.ldc2_w 259, 17, 0, 0), (.lstore_n 1, 1, 0, 0), (.iconst 0, 0, 0, 0), (.istore_n 3, 3, 0, 0)], 1),
  ([(.iload_n 3, 3, 0, 0), (.bipush 7, 7, 0, 0), (.if_icmp .gt 20, 2, 0, 0), (.lload_n 1, 1, 0, 0), (.aload_n 0, 0, 0, 0), (.iload_n 3, 3, 0, 0), (.invokevirtual 261, 87, 1, 10), (.i2l, 0, 0, 0), (.invokestatic 264, 89, 2, 0), (.lstore_n 1, 1, 0, 0), (.iinc 3 1, 3, 1, 0), (.goto (-20), 1, 0, 0)], 0),
  ([(.lload_n 1, 1, 0, 0), (.aload_n 0, 0, 0, 0), (.iconst 0, 0, 0, 0), (.invokevirtual 268, 55, 1, 10), (.i2l, 0, 0, 0), (.invokestatic 264, 89, 2, 0), (.aload_n 0, 0, 0, 0), (.iconst 1, 1, 0, 0), (.invokevirtual 268, 55, 1, 10), (.i2l, 0, 0, 0), (.invokestatic 264, 89, 2, 0), (.lstore_n 1, 1, 0, 0), (.iconst 0, 0, 0, 0), (.istore_n 3, 3, 0, 0)], 3),
  ([(.iload_n 3, 3, 0, 0), (.bipush 24, 24, 0, 0), (.if_icmp .ge 31, 4, 0, 0), (.lload_n 1, 1, 0, 0), (.aload_n 0, 0, 0, 0), (.iload_n 3, 3, 0, 0), (.iconst 0, 0, 0, 0), (.invokevirtual 271, 63, 2, 10), (.i2l, 0, 0, 0), (.invokestatic 264, 89, 2, 0), (.aload_n 0, 0, 0, 0), (.iload_n 3, 3, 0, 0), (.iconst 1, 1, 0, 0), (.invokevirtual 271, 63, 2, 10), (.i2l, 0, 0, 0), (.invokestatic 264, 89, 2, 0), (.lstore_n 1, 1, 0, 0), (.iinc 3 1, 3, 1, 0), (.goto (-31), 3, 0, 0)], 0),
  ([(.iconst 0, 0, 0, 0), (.istore_n 3, 3, 0, 0)], 5),
  ([(.iload_n 3, 3, 0, 0), (.bipush 6, 6, 0, 0), (.if_icmp .ge 16, 6, 0, 0), (.aload_n 0, 0, 0, 0), (.lload_n 1, 1, 0, 0), (.iload_n 3, 3, 0, 0), (.invokevirtual 273, 90, 2, 10), (.lstore_n 1, 1, 0, 0), (.iinc 3 1, 3, 1, 0), (.goto (-16), 5, 0, 0)], 0),
  ([(.iconst 0, 0, 0, 0), (.istore_n 3, 3, 0, 0)], 7),
  ([(.iload_n 3, 3, 0, 0), (.aload_n 0, 0, 0, 0), (.getfield 10, 10, 0, 0), (.getfield 88, 0, 3, 0), (.getfield 92, 2, 2, 0), (.if_icmp .ge 16, 8, 0, 0), (.aload_n 0, 0, 0, 0), (.lload_n 1, 1, 0, 0), (.iload_n 3, 3, 0, 0), (.invokevirtual 277, 91, 2, 10), (.lstore_n 1, 1, 0, 0), (.iinc 3 1, 3, 1, 0), (.goto (-24), 7, 0, 0)], 0),
  ([(.aload_n 0, 0, 0, 0), (.lload_n 1, 1, 0, 0), (.invokevirtual 280, 92, 1, 10), (.lreturn, 0, 0, 0)], 0)]
-- 89: X10_mixed
def bt_89 : List (List Op × Nat) := [
  ([(.ldc2_w 284, 31, 0, 0), (.lload_n 0, 0, 0, 0), (.lmul, 0, 0, 0), (.lload_n 2, 2, 0, 0), (.ladd, 0, 0, 0), (.lreturn, 0, 0, 0)], 0)]
-- 90: X10_mixedColumn
def bt_90 : List (List Op × Nat) := [
  ([(.lload_n 1, 1, 0, 0), (.aload_n 0, 0, 0, 0), (.iload_n 3, 3, 0, 0), (.invokevirtual 286, 66, 1, 10), (.i2l, 0, 0, 0), (.invokestatic 264, 89, 2, 0), (.lstore 4, 4, 0, 0), (.iconst 0, 0, 0, 0), (.istore 6, 6, 0, 0)], 1),
  ([(.iload 6, 6, 0, 0), (.bipush 6, 6, 0, 0), (.if_icmp .ge 81, 3, 0, 0), (.lload 4, 4, 0, 0), (.aload_n 0, 0, 0, 0), (.iload_n 3, 3, 0, 0), (.iload 6, 6, 0, 0), (.invokevirtual 289, 56, 2, 10), (.i2l, 0, 0, 0), (.invokestatic 264, 89, 2, 0), (.aload_n 0, 0, 0, 0), (.iconst 4, 4, 0, 0), (.iload_n 3, 3, 0, 0), (.iload 6, 6, 0, 0), (.invokevirtual 292, 62, 3, 10), (.i2l, 0, 0, 0), (.invokestatic 264, 89, 2, 0), (.lstore 4, 4, 0, 0), (.aload_n 0, 0, 0, 0), (.iload_n 3, 3, 0, 0), (.iload 6, 6, 0, 0), (.invokevirtual 199, 94, 2, 10), (.ifCond .ne 38, 2, 0, 0), (.aload_n 0, 0, 0, 0), (.getfield 21, 10, 1, 0), (.iload_n 3, 3, 0, 0), (.iload 6, 6, 0, 0), (.invokevirtual 202, 16, 2, 3), (.istore 7, 7, 0, 0), (.lload 4, 4, 0, 0), (.iload 7, 7, 0, 0), (.i2l, 0, 0, 0), (.invokestatic 264, 89, 2, 0), (.aload_n 0, 0, 0, 0), (.getfield 21, 10, 1, 0), (.iload 7, 7, 0, 0), (.invokevirtual 205, 17, 1, 3), (.i2l, 0, 0, 0), (.invokestatic 264, 89, 2, 0), (.lstore 4, 4, 0, 0)], 2),
  ([(.iinc 6 1, 6, 1, 0), (.goto (-82), 1, 0, 0)], 0),
  ([(.lload 4, 4, 0, 0), (.aload_n 0, 0, 0, 0), (.bipush 11, 11, 0, 0), (.iload_n 3, 3, 0, 0), (.iconst 0, 0, 0, 0), (.invokevirtual 296, 61, 3, 10), (.i2l, 0, 0, 0), (.invokestatic 264, 89, 2, 0), (.aload_n 0, 0, 0, 0), (.bipush 11, 11, 0, 0), (.iload_n 3, 3, 0, 0), (.iconst 1, 1, 0, 0), (.invokevirtual 296, 61, 3, 10), (.i2l, 0, 0, 0), (.invokestatic 264, 89, 2, 0), (.lreturn, 0, 0, 0)], 0)]
-- 91: X10_mixedOrder
def bt_91 : List (List Op × Nat) := [
  ([(.lload_n 1, 1, 0, 0), (.aload_n 0, 0, 0, 0), (.iload_n 3, 3, 0, 0), (.iconst 0, 0, 0, 0), (.invokevirtual 299, 57, 2, 10), (.i2l, 0, 0, 0), (.invokestatic 264, 89, 2, 0), (.aload_n 0, 0, 0, 0), (.iload_n 3, 3, 0, 0), (.iconst 1, 1, 0, 0), (.invokevirtual 299, 57, 2, 10), (.i2l, 0, 0, 0), (.invokestatic 264, 89, 2, 0), (.lstore 4, 4, 0, 0), (.lload 4, 4, 0, 0), (.aload_n 0, 0, 0, 0), (.iload_n 3, 3, 0, 0), (.iconst 0, 0, 0, 0), (.invokevirtual 302, 64, 2, 10), (.i2l, 0, 0, 0), (.invokestatic 264, 89, 2, 0), (.aload_n 0, 0, 0, 0), (.iload_n 3, 3, 0, 0), (.iconst 1, 1, 0, 0), (.invokevirtual 302, 64, 2, 10), (.i2l, 0, 0, 0), (.invokestatic 264, 89, 2, 0), (.lstore 4, 4, 0, 0), (.aload_n 0, 0, 0, 0), (.getfield 21, 10, 1, 0), (.iload_n 3, 3, 0, 0), (.invokevirtual 182, 11, 1, 3), (.lload 4, 4, 0, 0), (.aload_n 0, 0, 0, 0), (.getfield 21, 10, 1, 0), (.getfield 170, 3, 5, 0), (.i2l, 0, 0, 0), (.invokestatic 264, 89, 2, 0), (.aload_n 0, 0, 0, 0), (.getfield 21, 10, 1, 0), (.getfield 173, 3, 7, 0), (.i2l, 0, 0, 0), (.invokestatic 264, 89, 2, 0), (.lstore 4, 4, 0, 0), (.aload_n 0, 0, 0, 0), (.getfield 21, 10, 1, 0), (.iconst 5, 5, 0, 0), (.iload_n 3, 3, 0, 0), (.invokevirtual 210, 19, 2, 3), (.lload 4, 4, 0, 0), (.aload_n 0, 0, 0, 0), (.getfield 21, 10, 1, 0), (.getfield 214, 3, 8, 0), (.invokestatic 264, 89, 2, 0), (.aload_n 0, 0, 0, 0), (.getfield 21, 10, 1, 0), (.getfield 218, 3, 9, 0), (.invokestatic 264, 89, 2, 0), (.lreturn, 0, 0, 0)], 0)]
-- 92: X10_mixedPlans
def bt_92 : List (List Op × Nat) := [
  ([(.lload_n 1, 1, 0, 0), (.aload_n 0, 0, 0, 0), (.iconst 0, 0, 0, 0), (.invokevirtual 305, 65, 1, 10), (.i2l, 0, 0, 0), (.invokestatic 264, 89, 2, 0), (.aload_n 0, 0, 0, 0), (.iconst 1, 1, 0, 0), (.invokevirtual 305, 65, 1, 10), (.i2l, 0, 0, 0), (.invokestatic 264, 89, 2, 0), (.lstore_n 3, 3, 0, 0), (.lload_n 3, 3, 0, 0), (.aload_n 0, 0, 0, 0), (.invokevirtual 308, 67, 0, 10), (.i2l, 0, 0, 0), (.invokestatic 264, 89, 2, 0), (.aload_n 0, 0, 0, 0), (.invokevirtual 311, 68, 0, 10), (.i2l, 0, 0, 0), (.invokestatic 264, 89, 2, 0), (.lstore_n 3, 3, 0, 0), (.lload_n 3, 3, 0, 0), (.aload_n 0, 0, 0, 0), (.iconst 0, 0, 0, 0), (.invokevirtual 314, 69, 1, 10), (.i2l, 0, 0, 0), (.invokestatic 264, 89, 2, 0), (.aload_n 0, 0, 0, 0), (.iconst 1, 1, 0, 0), (.invokevirtual 314, 69, 1, 10), (.i2l, 0, 0, 0), (.invokestatic 264, 89, 2, 0), (.lstore_n 3, 3, 0, 0), (.aload_n 0, 0, 0, 0), (.getfield 21, 10, 1, 0), (.invokevirtual 167, 9, 0, 3), (.lload_n 3, 3, 0, 0), (.aload_n 0, 0, 0, 0), (.getfield 21, 10, 1, 0), (.getfield 170, 3, 5, 0), (.i2l, 0, 0, 0), (.invokestatic 264, 89, 2, 0), (.aload_n 0, 0, 0, 0), (.getfield 21, 10, 1, 0), (.getfield 173, 3, 7, 0), (.i2l, 0, 0, 0), (.invokestatic 264, 89, 2, 0), (.lstore_n 3, 3, 0, 0), (.aload_n 0, 0, 0, 0), (.getfield 21, 10, 1, 0), (.invokevirtual 176, 10, 0, 3), (.lload_n 3, 3, 0, 0), (.aload_n 0, 0, 0, 0), (.getfield 21, 10, 1, 0), (.getfield 170, 3, 5, 0), (.i2l, 0, 0, 0), (.invokestatic 264, 89, 2, 0), (.aload_n 0, 0, 0, 0), (.getfield 21, 10, 1, 0), (.getfield 179, 3, 6, 0), (.i2l, 0, 0, 0), (.invokestatic 264, 89, 2, 0), (.aload_n 0, 0, 0, 0), (.getfield 21, 10, 1, 0), (.getfield 173, 3, 7, 0), (.i2l, 0, 0, 0), (.invokestatic 264, 89, 2, 0), (.lstore_n 3, 3, 0, 0), (.aload_n 0, 0, 0, 0), (.getfield 21, 10, 1, 0), (.invokevirtual 185, 14, 0, 3), (.lload_n 3, 3, 0, 0), (.aload_n 0, 0, 0, 0), (.getfield 21, 10, 1, 0), (.getfield 173, 3, 7, 0), (.i2l, 0, 0, 0), (.invokestatic 264, 89, 2, 0), (.aload_n 0, 0, 0, 0), (.getfield 21, 10, 1, 0), (.getfield 170, 3, 5, 0), (.i2l, 0, 0, 0), (.invokestatic 264, 89, 2, 0), (.lstore_n 3, 3, 0, 0), (.lload_n 3, 3, 0, 0), (.aload_n 0, 0, 0, 0), (.getfield 21, 10, 1, 0), (.invokevirtual 196, 15, 0, 3), (.i2l, 0, 0, 0), (.invokestatic 264, 89, 2, 0), (.lstore_n 3, 3, 0, 0), (.aload_n 0, 0, 0, 0), (.getfield 21, 10, 1, 0), (.bipush 7, 7, 0, 0), (.bipush 6, 6, 0, 0), (.invokevirtual 221, 22, 2, 3), (.astore 5, 5, 0, 0), (.lload_n 3, 3, 0, 0), (.aload 5, 5, 0, 0), (.getfield 148, 7, 4, 0), (.bipush 23, 23, 0, 0), (.iaload, 0, 0, 0), (.i2l, 0, 0, 0), (.invokestatic 264, 89, 2, 0), (.aload 5, 5, 0, 0), (.invokevirtual 164, 48, 0, 7), (.i2l, 0, 0, 0), (.invokestatic 264, 89, 2, 0), (.lreturn, 0, 0, 0)], 0)]
-- 93: X10_outside
def bt_93 : List (List Op × Nat) := [
  ([(.iload_n 0, 0, 0, 0), (.ifCond .lt 8, 1, 0, 0), (.iload_n 0, 0, 0, 0), (.iload_n 1, 1, 0, 0), (.if_icmp .le 7, 2, 0, 0)], 1),
  ([(.iconst 1, 1, 0, 0), (.goto 4, 3, 0, 0)], 0),
  ([(.iconst 0, 0, 0, 0)], 3),
  ([(.ireturn, 1, 0, 0)], 0)]
-- 94: X10_isNoBlock
def bt_94 : List (List Op × Nat) := [
  ([(.iload_n 1, 1, 0, 0), (.iconst 5, 5, 0, 0), (.invokestatic 49, 93, 2, 0), (.ifCond .ne 31, 1, 0, 0), (.iload_n 2, 2, 0, 0), (.iconst 5, 5, 0, 0), (.invokestatic 49, 93, 2, 0), (.ifCond .ne 23, 1, 0, 0), (.aload_n 0, 0, 0, 0), (.getfield 10, 10, 0, 0), (.getfield 78, 0, 2, 0), (.getfield 82, 6, 0, 0), (.iload_n 1, 1, 0, 0), (.bipush 6, 6, 0, 0), (.imul, 0, 0, 0), (.iload_n 2, 2, 0, 0), (.iadd, 0, 0, 0), (.iaload, 0, 0, 0), (.ifCond .ne 7, 2, 0, 0)], 1),
  ([(.iconst 1, 1, 0, 0), (.goto 4, 3, 0, 0)], 0),
  ([(.iconst 0, 0, 0, 0)], 3),
  ([(.ireturn, 1, 0, 0)], 0)]
-- 95: X10_found
def bt_95 : List (List Op × Nat) := [
  ([(.aload_n 0, 0, 0, 0), (.iload_n 1, 1, 0, 0), (.putfield 45, 10, 5, 0), (.bipush (-10), 10, 1, 0), (.iload_n 1, 1, 0, 0), (.isub, 0, 0, 0), (.ireturn, 0, 0, 0)], 0)]
-- 96: X10_noteChangedText
def bt_96 : List (List Op × Nat) := [
  ([(.iload_n 1, 1, 0, 0), (.ifCond .ne 13, 1, 0, 0), (.aload_n 0, 0, 0, 0), (.getfield 10, 10, 0, 0), (.invokevirtual 317, 1, 0, 0), (.goto 10, 2, 0, 0)], 0),
  ([(.aload_n 0, 0, 0, 0), (.getfield 10, 10, 0, 0), (.invokevirtual 320, 3, 0, 0)], 2),
  ([(.aload_n 0, 0, 0, 0), (.invokevirtual 117, 97, 0, 10), (.return_, 0, 0, 0)], 0)]
-- 97: X10_noteChange
def bt_97 : List (List Op × Nat) := [
  ([(.aload_n 0, 0, 0, 0), (.iconst 0, 0, 0, 0), (.putfield 41, 10, 4, 0), (.aload_n 0, 0, 0, 0), (.getfield 21, 10, 1, 0), (.iconst 0, 0, 0, 0), (.putfield 323, 3, 4, 0), (.return_, 0, 0, 0)], 0)]
-- 98: X10_toldSummer
def bt_98 : List (List Op × Nat) := [
  ([(.aload_n 0, 0, 0, 0), (.getfield 41, 10, 4, 0), (.ifCond .ne 29, 1, 0, 0), (.aload_n 0, 0, 0, 0), (.getfield 30, 10, 2, 0), (.aload_n 0, 0, 0, 0), (.getfield 10, 10, 0, 0), (.sipush 255, 255, 0, 0), (.invokevirtual 326, 41, 2, 7), (.aload_n 0, 0, 0, 0), (.getfield 30, 10, 2, 0), (.invokevirtual 330, 42, 0, 7), (.aload_n 0, 0, 0, 0), (.iconst 1, 1, 0, 0), (.putfield 41, 10, 4, 0)], 1),
  ([(.aload_n 0, 0, 0, 0), (.getfield 30, 10, 2, 0), (.areturn, 0, 0, 0)], 0)]
-- 99: X11_in
def bt_99 : List (List Op × Nat) := [
  ([(.lload_n 0, 0, 0, 0), (.lload_n 2, 2, 0, 0), (.lcmp, 0, 0, 0), (.ifCond .lt 14, 1, 0, 0), (.lload_n 0, 0, 0, 0), (.lload 4, 4, 0, 0), (.lcmp, 0, 0, 0), (.ifCond .gt 7, 1, 0, 0), (.iconst 1, 1, 0, 0), (.goto 4, 2, 0, 0)], 0),
  ([(.iconst 0, 0, 0, 0)], 2),
  ([(.ireturn, 1, 0, 0)], 0)]
-- 100: X11_no
def bt_100 : List (List Op × Nat) := [
  ([(.ldc2_w 74, 9223372036854775808, 1, 0), (.iload_n 0, 0, 0, 0), (.i2l, 0, 0, 0), (.lsub, 0, 0, 0), (.lreturn, 0, 0, 0)], 0)]
-- 101: X11_isTwo
def bt_101 : List (List Op × Nat) := [
  ([(.iload_n 0, 0, 0, 0), (.i2l, 0, 0, 0), (.lconst 0, 0, 0, 0), (.lconst 1, 1, 0, 0), (.invokestatic 76, 99, 3, 0), (.ireturn, 1, 0, 0)], 0)]
-- 102: X11_isIn
def bt_102 : List (List Op × Nat) := [
  ([(.iload_n 0, 0, 0, 0), (.iload_n 1, 1, 0, 0), (.ishr, 0, 0, 0), (.iconst 1, 1, 0, 0), (.iand, 0, 0, 0), (.iconst 1, 1, 0, 0), (.if_icmp .ne 7, 1, 0, 0), (.iconst 1, 1, 0, 0), (.goto 4, 2, 0, 0)], 0),
  ([(.iconst 0, 0, 0, 0)], 2),
  ([(.ireturn, 1, 0, 0)], 0)]
-- 103: X11_lesser
def bt_103 : List (List Op × Nat) := [
  ([(.iload_n 0, 0, 0, 0), (.iload_n 1, 1, 0, 0), (.if_icmp .ge 7, 1, 0, 0), (.iload_n 0, 0, 0, 0), (.goto 4, 2, 0, 0)], 0),
  ([(.iload_n 1, 1, 0, 0)], 2),
  ([(.ireturn, 0, 0, 0)], 0)]
-- 104: X11_greater
def bt_104 : List (List Op × Nat) := [
  ([(.iload_n 0, 0, 0, 0), (.iload_n 1, 1, 0, 0), (.if_icmp .le 7, 1, 0, 0), (.iload_n 0, 0, 0, 0), (.goto 4, 2, 0, 0)], 0),
  ([(.iload_n 1, 1, 0, 0)], 2),
  ([(.ireturn, 0, 0, 0)], 0)]
-- 105: X11_part
def bt_105 : List (List Op × Nat) := [
  ([(.lload_n 0, 0, 0, 0), (.lstore 5, 5, 0, 0), (.lload_n 2, 2, 0, 0), (.lstore 7, 7, 0, 0)], 1),
  ([(.lload 7, 7, 0, 0), (.lconst 0, 0, 0, 0), (.lcmp, 0, 0, 0), (.ifCond .eq 21, 2, 0, 0), (.lload 5, 5, 0, 0), (.lload 7, 7, 0, 0), (.lrem, 0, 0, 0), (.lstore 9, 9, 0, 0), (.lload 7, 7, 0, 0), (.lstore 5, 5, 0, 0), (.lload 9, 9, 0, 0), (.lstore 7, 7, 0, 0), (.goto (-22), 1, 0, 0)], 0),
  ([(.iload 4, 4, 0, 0), (.ifCond .ne 7, 3, 0, 0), (.lload_n 0, 0, 0, 0), (.goto 4, 4, 0, 0)], 0),
  ([(.lload_n 2, 2, 0, 0)], 4),
  ([(.lload 5, 5, 0, 0), (.ldiv, 0, 0, 0), (.lreturn, 0, 0, 0)], 0)]
-- 106: X11_finds
def bt_106 : List (List Op × Nat) := [
  ([(.aload_n 0, 0, 0, 0), (.iload_n 1, 1, 0, 0), (.putfield 80, 11, 4, 0), (.bipush (-10), 10, 1, 0), (.iload_n 1, 1, 0, 0), (.isub, 0, 0, 0), (.ireturn, 0, 0, 0)], 0)]
-- 107: X11_isSheet
def bt_107 : List (List Op × Nat) := [
  ([(.iload_n 0, 0, 0, 0), (.i2l, 0, 0, 0), (.lconst 0, 0, 0, 0), (.ldc2_w 83, 3, 0, 0), (.invokestatic 76, 99, 3, 0), (.ireturn, 1, 0, 0)], 0)]
-- 108: X11_sheet
def bt_108 : List (List Op × Nat) := [
  ([(.iload_n 1, 1, 0, 0), (.invokestatic 85, 107, 1, 0), (.ifCond .eq 21, 1, 0, 0), (.iload_n 2, 2, 0, 0), (.i2l, 0, 0, 0), (.lconst 0, 0, 0, 0), (.ldc2_w 89, 2, 0, 0), (.invokestatic 76, 99, 3, 0), (.ifCond .eq 9, 1, 0, 0), (.iload_n 3, 3, 0, 0), (.bipush 60, 60, 0, 0), (.if_icmp .le 6, 2, 0, 0)], 1),
  ([(.bipush (-2), 2, 1, 0), (.ireturn, 0, 0, 0)], 0),
  ([(.iload_n 3, 3, 0, 0), (.ifCond .ge 9, 3, 0, 0), (.aload_n 0, 0, 0, 0), (.iconst 5, 5, 0, 0), (.invokevirtual 91, 106, 1, 11), (.ireturn, 0, 0, 0)], 0),
  ([(.aload_n 0, 0, 0, 0), (.getfield 7, 11, 0, 0), (.iload_n 1, 1, 0, 0), (.iload_n 2, 2, 0, 0), (.iastore, 0, 0, 0), (.aload_n 0, 0, 0, 0), (.getfield 13, 11, 1, 0), (.iload_n 1, 1, 0, 0), (.iload_n 3, 3, 0, 0), (.iastore, 0, 0, 0), (.iconst 0, 0, 0, 0), (.istore 4, 4, 0, 0)], 4),
  ([(.iload 4, 4, 0, 0), (.iload_n 3, 3, 0, 0), (.if_icmp .ge 22, 5, 0, 0), (.aload_n 0, 0, 0, 0), (.getfield 16, 11, 2, 0), (.bipush 60, 60, 0, 0), (.iload_n 1, 1, 0, 0), (.imul, 0, 0, 0), (.iload 4, 4, 0, 0), (.iadd, 0, 0, 0), (.iconst 0, 0, 0, 0), (.iastore, 0, 0, 0), (.iinc 4 1, 4, 1, 0), (.goto (-22), 4, 0, 0)], 0),
  ([(.iload_n 3, 3, 0, 0), (.ireturn, 0, 0, 0)], 0)]
-- 109: X11_lose
def bt_109 : List (List Op × Nat) := [
  ([(.iload_n 1, 1, 0, 0), (.invokestatic 85, 107, 1, 0), (.ifCond .ne 6, 1, 0, 0), (.bipush (-2), 2, 1, 0), (.ireturn, 0, 0, 0)], 0),
  ([(.aload_n 0, 0, 0, 0), (.getfield 7, 11, 0, 0), (.iload_n 1, 1, 0, 0), (.iaload, 0, 0, 0), (.ifCond .ge 9, 2, 0, 0), (.aload_n 0, 0, 0, 0), (.iconst 1, 1, 0, 0), (.invokevirtual 91, 106, 1, 11), (.ireturn, 0, 0, 0)], 0),
  ([(.aload_n 0, 0, 0, 0), (.getfield 7, 11, 0, 0), (.iload_n 1, 1, 0, 0), (.iconst (-1), 1, 1, 0), (.iastore, 0, 0, 0), (.aload_n 0, 0, 0, 0), (.getfield 13, 11, 1, 0), (.iload_n 1, 1, 0, 0), (.iaload, 0, 0, 0), (.ireturn, 0, 0, 0)], 0)]
-- 110: X11_lacks
def bt_110 : List (List Op × Nat) := [
  ([(.aload_n 0, 0, 0, 0), (.getfield 7, 11, 0, 0), (.iload_n 1, 1, 0, 0), (.iaload, 0, 0, 0), (.ifCond .ge 9, 1, 0, 0), (.aload_n 0, 0, 0, 0), (.iconst 1, 1, 0, 0), (.invokevirtual 91, 106, 1, 11), (.ireturn, 0, 0, 0)], 0),
  ([(.aload_n 0, 0, 0, 0), (.getfield 7, 11, 0, 0), (.iload_n 1, 1, 0, 0), (.iaload, 0, 0, 0), (.iload_n 2, 2, 0, 0), (.if_icmp .eq 9, 2, 0, 0), (.aload_n 0, 0, 0, 0), (.iconst 3, 3, 0, 0), (.invokevirtual 91, 106, 1, 11), (.ireturn, 0, 0, 0)], 0),
  ([(.iload_n 3, 3, 0, 0), (.i2l, 0, 0, 0), (.lconst 0, 0, 0, 0), (.aload_n 0, 0, 0, 0), (.getfield 13, 11, 1, 0), (.iload_n 1, 1, 0, 0), (.iaload, 0, 0, 0), (.iconst 1, 1, 0, 0), (.isub, 0, 0, 0), (.i2l, 0, 0, 0), (.invokestatic 76, 99, 3, 0), (.ifCond .eq 7, 3, 0, 0), (.iconst 0, 0, 0, 0), (.goto 8, 4, 0, 0)], 0),
  ([(.aload_n 0, 0, 0, 0), (.iconst 2, 2, 0, 0), (.invokevirtual 91, 106, 1, 11)], 4),
  ([(.ireturn, 0, 0, 0)], 0)]
-- 111: X11_cut
def bt_111 : List (List Op × Nat) := [
  ([(.iload_n 0, 0, 0, 0), (.ifCond .ne 8, 1, 0, 0), (.iload_n 1, 1, 0, 0), (.i2b, 0, 0, 0), (.goto 14, 3, 0, 0)], 0),
  ([(.iload_n 0, 0, 0, 0), (.iconst 1, 1, 0, 0), (.if_icmp .ne 8, 2, 0, 0), (.iload_n 1, 1, 0, 0), (.i2s, 0, 0, 0), (.goto 4, 3, 0, 0)], 0),
  ([(.iload_n 1, 1, 0, 0)], 3),
  ([(.ireturn, 0, 0, 0)], 0)]
-- 112: X11_lay
def bt_112 : List (List Op × Nat) := [
  ([(.iload_n 1, 1, 0, 0), (.invokestatic 85, 107, 1, 0), (.ifCond .eq 15, 1, 0, 0), (.iload_n 2, 2, 0, 0), (.i2l, 0, 0, 0), (.lconst 0, 0, 0, 0), (.ldc2_w 89, 2, 0, 0), (.invokestatic 76, 99, 3, 0), (.ifCond .ne 6, 2, 0, 0)], 1),
  ([(.bipush (-2), 2, 1, 0), (.ireturn, 0, 0, 0)], 0),
  ([(.aload_n 0, 0, 0, 0), (.iload_n 1, 1, 0, 0), (.iload_n 2, 2, 0, 0), (.iload_n 3, 3, 0, 0), (.invokevirtual 95, 110, 3, 11), (.istore 5, 5, 0, 0), (.iload 5, 5, 0, 0), (.ifCond .eq 6, 3, 0, 0), (.iload 5, 5, 0, 0), (.ireturn, 0, 0, 0)], 0),
  ([(.aload_n 0, 0, 0, 0), (.getfield 16, 11, 2, 0), (.bipush 60, 60, 0, 0), (.iload_n 1, 1, 0, 0), (.imul, 0, 0, 0), (.iload_n 3, 3, 0, 0), (.iadd, 0, 0, 0), (.iload_n 2, 2, 0, 0), (.iload 4, 4, 0, 0), (.invokestatic 99, 111, 2, 0), (.iastore, 0, 0, 0), (.iconst 1, 1, 0, 0), (.ireturn, 0, 0, 0)], 0)]
-- 113: X11_get
def bt_113 : List (List Op × Nat) := [
  ([(.iload_n 1, 1, 0, 0), (.invokestatic 85, 107, 1, 0), (.ifCond .eq 25, 1, 0, 0), (.iload_n 2, 2, 0, 0), (.i2l, 0, 0, 0), (.lconst 0, 0, 0, 0), (.ldc2_w 89, 2, 0, 0), (.invokestatic 76, 99, 3, 0), (.ifCond .eq 13, 1, 0, 0), (.aload_n 0, 0, 0, 0), (.iload_n 1, 1, 0, 0), (.iload_n 2, 2, 0, 0), (.iload_n 3, 3, 0, 0), (.invokevirtual 95, 110, 3, 11), (.ifCond .eq 6, 2, 0, 0)], 1),
  ([(.ldc 103, 2147483648, 1, 0), (.ireturn, 0, 0, 0)], 0),
  ([(.aload_n 0, 0, 0, 0), (.getfield 16, 11, 2, 0), (.bipush 60, 60, 0, 0), (.iload_n 1, 1, 0, 0), (.imul, 0, 0, 0), (.iload_n 3, 3, 0, 0), (.iadd, 0, 0, 0), (.iaload, 0, 0, 0), (.ireturn, 0, 0, 0)], 0)]
-- 114: X11_copy
def bt_114 : List (List Op × Nat) := [
  ([(.iload_n 1, 1, 0, 0), (.invokestatic 85, 107, 1, 0), (.ifCond .eq 10, 1, 0, 0), (.iload_n 3, 3, 0, 0), (.invokestatic 85, 107, 1, 0), (.ifCond .ne 6, 2, 0, 0)], 1),
  ([(.bipush (-2), 2, 1, 0), (.ireturn, 0, 0, 0)], 0),
  ([(.aload_n 0, 0, 0, 0), (.getfield 7, 11, 0, 0), (.iload_n 1, 1, 0, 0), (.iaload, 0, 0, 0), (.ifCond .lt 12, 3, 0, 0), (.aload_n 0, 0, 0, 0), (.getfield 7, 11, 0, 0), (.iload_n 3, 3, 0, 0), (.iaload, 0, 0, 0), (.ifCond .ge 9, 4, 0, 0)], 3),
  ([(.aload_n 0, 0, 0, 0), (.iconst 1, 1, 0, 0), (.invokevirtual 91, 106, 1, 11), (.ireturn, 0, 0, 0)], 0),
  ([(.aload_n 0, 0, 0, 0), (.getfield 7, 11, 0, 0), (.iload_n 1, 1, 0, 0), (.iaload, 0, 0, 0), (.aload_n 0, 0, 0, 0), (.getfield 7, 11, 0, 0), (.iload_n 3, 3, 0, 0), (.iaload, 0, 0, 0), (.if_icmp .eq 9, 5, 0, 0), (.aload_n 0, 0, 0, 0), (.iconst 4, 4, 0, 0), (.invokevirtual 91, 106, 1, 11), (.ireturn, 0, 0, 0)], 0),
  ([(.iload_n 2, 2, 0, 0), (.ifCond .lt 48, 6, 0, 0), (.iload 4, 4, 0, 0), (.ifCond .lt 43, 6, 0, 0), (.iload 5, 5, 0, 0), (.ifCond .lt 38, 6, 0, 0), (.iload_n 2, 2, 0, 0), (.i2l, 0, 0, 0), (.iload 5, 5, 0, 0), (.i2l, 0, 0, 0), (.ladd, 0, 0, 0), (.aload_n 0, 0, 0, 0), (.getfield 13, 11, 1, 0), (.iload_n 1, 1, 0, 0), (.iaload, 0, 0, 0), (.i2l, 0, 0, 0), (.lcmp, 0, 0, 0), (.ifCond .gt 21, 6, 0, 0), (.iload 4, 4, 0, 0), (.i2l, 0, 0, 0), (.iload 5, 5, 0, 0), (.i2l, 0, 0, 0), (.ladd, 0, 0, 0), (.aload_n 0, 0, 0, 0), (.getfield 13, 11, 1, 0), (.iload_n 3, 3, 0, 0), (.iaload, 0, 0, 0), (.i2l, 0, 0, 0), (.lcmp, 0, 0, 0), (.ifCond .le 9, 7, 0, 0)], 6),
  ([(.aload_n 0, 0, 0, 0), (.iconst 2, 2, 0, 0), (.invokevirtual 91, 106, 1, 11), (.ireturn, 0, 0, 0)], 0),
  ([(.iconst 0, 0, 0, 0), (.istore 6, 6, 0, 0)], 8),
  ([(.iload 6, 6, 0, 0), (.iload 5, 5, 0, 0), (.if_icmp .ge 30, 9, 0, 0), (.aload_n 0, 0, 0, 0), (.getfield 19, 11, 3, 0), (.iload 6, 6, 0, 0), (.aload_n 0, 0, 0, 0), (.getfield 16, 11, 2, 0), (.bipush 60, 60, 0, 0), (.iload_n 1, 1, 0, 0), (.imul, 0, 0, 0), (.iload_n 2, 2, 0, 0), (.iadd, 0, 0, 0), (.iload 6, 6, 0, 0), (.iadd, 0, 0, 0), (.iaload, 0, 0, 0), (.iastore, 0, 0, 0), (.iinc 6 1, 6, 1, 0), (.goto (-31), 8, 0, 0)], 0),
  ([(.iconst 0, 0, 0, 0), (.istore 6, 6, 0, 0)], 10),
  ([(.iload 6, 6, 0, 0), (.iload 5, 5, 0, 0), (.if_icmp .ge 31, 11, 0, 0), (.aload_n 0, 0, 0, 0), (.getfield 16, 11, 2, 0), (.bipush 60, 60, 0, 0), (.iload_n 3, 3, 0, 0), (.imul, 0, 0, 0), (.iload 4, 4, 0, 0), (.iadd, 0, 0, 0), (.iload 6, 6, 0, 0), (.iadd, 0, 0, 0), (.aload_n 0, 0, 0, 0), (.getfield 19, 11, 3, 0), (.iload 6, 6, 0, 0), (.iaload, 0, 0, 0), (.iastore, 0, 0, 0), (.iinc 6 1, 6, 1, 0), (.goto (-32), 10, 0, 0)], 0),
  ([(.iconst 1, 1, 0, 0), (.ireturn, 0, 0, 0)], 0)]
-- 115: X11_type
def bt_115 : List (List Op × Nat) := [
  ([(.iload_n 1, 1, 0, 0), (.invokestatic 104, 101, 1, 0), (.ifCond .eq 15, 1, 0, 0), (.iload_n 2, 2, 0, 0), (.i2l, 0, 0, 0), (.lconst 0, 0, 0, 0), (.ldc2_w 107, 255, 0, 0), (.invokestatic 76, 99, 3, 0), (.ifCond .ne 6, 2, 0, 0)], 1),
  ([(.bipush (-2), 2, 1, 0), (.ireturn, 0, 0, 0)], 0),
  ([(.aload_n 0, 0, 0, 0), (.getfield 25, 11, 6, 0), (.iload_n 1, 1, 0, 0), (.iaload, 0, 0, 0), (.iload_n 1, 1, 0, 0), (.ifCond .ne 8, 3, 0, 0), (.bipush 41, 41, 0, 0), (.goto 5, 4, 0, 0)], 0),
  ([(.bipush 35, 35, 0, 0)], 4),
  ([(.if_icmp .ne 6, 5, 0, 0), (.bipush (-4), 4, 1, 0), (.ireturn, 0, 0, 0)], 0),
  ([(.aload_n 0, 0, 0, 0), (.getfield 22, 11, 5, 0), (.bipush 42, 42, 0, 0), (.iload_n 1, 1, 0, 0), (.imul, 0, 0, 0), (.aload_n 0, 0, 0, 0), (.getfield 25, 11, 6, 0), (.iload_n 1, 1, 0, 0), (.iaload, 0, 0, 0), (.iadd, 0, 0, 0), (.iload_n 2, 2, 0, 0), (.iastore, 0, 0, 0), (.aload_n 0, 0, 0, 0), (.getfield 25, 11, 6, 0), (.iload_n 1, 1, 0, 0), (.dup2, 0, 0, 0), (.iaload, 0, 0, 0), (.iconst 1, 1, 0, 0), (.iadd, 0, 0, 0), (.iastore, 0, 0, 0), (.aload_n 0, 0, 0, 0), (.getfield 25, 11, 6, 0), (.iload_n 1, 1, 0, 0), (.iaload, 0, 0, 0), (.ireturn, 0, 0, 0)], 0)]
-- 116: X11_wipe
def bt_116 : List (List Op × Nat) := [
  ([(.iload_n 1, 1, 0, 0), (.invokestatic 104, 101, 1, 0), (.ifCond .ne 6, 1, 0, 0), (.bipush (-2), 2, 1, 0), (.ireturn, 0, 0, 0)], 0),
  ([(.aload_n 0, 0, 0, 0), (.getfield 25, 11, 6, 0), (.iload_n 1, 1, 0, 0), (.iaload, 0, 0, 0), (.istore_n 2, 2, 0, 0), (.aload_n 0, 0, 0, 0), (.getfield 25, 11, 6, 0), (.iload_n 1, 1, 0, 0), (.iconst 0, 0, 0, 0), (.iastore, 0, 0, 0), (.iload_n 2, 2, 0, 0), (.ireturn, 0, 0, 0)], 0)]
-- 117: X11_undo
def bt_117 : List (List Op × Nat) := [
  ([(.iload_n 1, 1, 0, 0), (.invokestatic 104, 101, 1, 0), (.ifCond .ne 6, 1, 0, 0), (.bipush (-2), 2, 1, 0), (.ireturn, 0, 0, 0)], 0),
  ([(.aload_n 0, 0, 0, 0), (.getfield 25, 11, 6, 0), (.iload_n 1, 1, 0, 0), (.iaload, 0, 0, 0), (.ifCond .ne 6, 2, 0, 0), (.bipush (-3), 3, 1, 0), (.ireturn, 0, 0, 0)], 0),
  ([(.aload_n 0, 0, 0, 0), (.getfield 25, 11, 6, 0), (.iload_n 1, 1, 0, 0), (.dup2, 0, 0, 0), (.iaload, 0, 0, 0), (.iconst 1, 1, 0, 0), (.isub, 0, 0, 0), (.iastore, 0, 0, 0), (.aload_n 0, 0, 0, 0), (.getfield 25, 11, 6, 0), (.iload_n 1, 1, 0, 0), (.iaload, 0, 0, 0), (.ireturn, 0, 0, 0)], 0)]
-- 118: X11_bares
def bt_118 : List (List Op × Nat) := [
  ([(.iconst 0, 0, 0, 0), (.istore_n 1, 1, 0, 0)], 1),
  ([(.iload_n 1, 1, 0, 0), (.bipush 6, 6, 0, 0), (.if_icmp .ge 16, 2, 0, 0), (.aload_n 0, 0, 0, 0), (.getfield 28, 11, 7, 0), (.iload_n 1, 1, 0, 0), (.iconst 0, 0, 0, 0), (.iastore, 0, 0, 0), (.iinc 1 1, 1, 1, 0), (.goto (-16), 1, 0, 0)], 0),
  ([(.return_, 0, 0, 0)], 0)]
-- 119: X11_readsBlocks
def bt_119 : List (List Op × Nat) := [
  ([(.aload_n 0, 0, 0, 0), (.invokevirtual 109, 118, 0, 11), (.iconst 0, 0, 0, 0), (.istore_n 1, 1, 0, 0), (.iconst 0, 0, 0, 0), (.istore_n 2, 2, 0, 0)], 1),
  ([(.iload_n 2, 2, 0, 0), (.aload_n 0, 0, 0, 0), (.getfield 25, 11, 6, 0), (.iconst 0, 0, 0, 0), (.iaload, 0, 0, 0), (.if_icmp .ge 123, 9, 0, 0), (.aload_n 0, 0, 0, 0), (.getfield 22, 11, 5, 0), (.iload_n 2, 2, 0, 0), (.iaload, 0, 0, 0), (.istore_n 3, 3, 0, 0), (.iload_n 3, 3, 0, 0), (.i2l, 0, 0, 0), (.ldc2_w 112, 49, 0, 0), (.ldc2_w 114, 57, 0, 0), (.invokestatic 76, 99, 3, 0), (.istore 4, 4, 0, 0), (.iload 4, 4, 0, 0), (.ifCond .eq 22, 3, 0, 0), (.aload_n 0, 0, 0, 0), (.getfield 28, 11, 7, 0), (.iload_n 1, 1, 0, 0), (.iaload, 0, 0, 0), (.bipush 6, 6, 0, 0), (.if_icmp .ge 7, 2, 0, 0), (.iconst 1, 1, 0, 0), (.goto 23, 5, 0, 0)], 0),
  ([(.iconst 0, 0, 0, 0), (.goto 19, 5, 0, 0)], 0),
  ([(.iload_n 3, 3, 0, 0), (.bipush 59, 59, 0, 0), (.if_icmp .ne 12, 4, 0, 0), (.iload_n 1, 1, 0, 0), (.iconst 5, 5, 0, 0), (.if_icmp .ge 7, 4, 0, 0), (.iconst 1, 1, 0, 0), (.goto 4, 5, 0, 0)], 0),
  ([(.iconst 0, 0, 0, 0)], 5),
  ([(.istore 5, 5, 0, 0), (.iload 5, 5, 0, 0), (.ifCond .ne 9, 6, 0, 0), (.aload_n 0, 0, 0, 0), (.invokevirtual 109, 118, 0, 11), (.iload_n 2, 2, 0, 0), (.ireturn, 0, 0, 0)], 0),
  ([(.iload 4, 4, 0, 0), (.ifCond .eq 36, 7, 0, 0), (.aload_n 0, 0, 0, 0), (.getfield 31, 11, 8, 0), (.bipush 6, 6, 0, 0), (.iload_n 1, 1, 0, 0), (.imul, 0, 0, 0), (.aload_n 0, 0, 0, 0), (.getfield 28, 11, 7, 0), (.iload_n 1, 1, 0, 0), (.iaload, 0, 0, 0), (.iadd, 0, 0, 0), (.iload_n 3, 3, 0, 0), (.bipush 48, 48, 0, 0), (.isub, 0, 0, 0), (.iastore, 0, 0, 0), (.aload_n 0, 0, 0, 0), (.getfield 28, 11, 7, 0), (.iload_n 1, 1, 0, 0), (.dup2, 0, 0, 0), (.iaload, 0, 0, 0), (.iconst 1, 1, 0, 0), (.iadd, 0, 0, 0), (.iastore, 0, 0, 0), (.goto 6, 8, 0, 0)], 0),
  ([(.iinc 1 1, 1, 1, 0)], 8),
  ([(.iinc 2 1, 2, 1, 0), (.goto (-127), 1, 0, 0)], 0),
  ([(.iconst (-1), 1, 1, 0), (.ireturn, 0, 0, 0)], 0)]
-- 120: X11_orderOf
def bt_120 : List (List Op × Nat) := [
  ([(.iload_n 0, 0, 0, 0), (.ifCond .ne 27, 3, 0, 0), (.iload_n 1, 1, 0, 0), (.i2l, 0, 0, 0), (.ldc2_w 116, 97, 0, 0), (.ldc2_w 118, 120, 0, 0), (.invokestatic 76, 99, 3, 0), (.ifCond .eq 10, 1, 0, 0), (.iload_n 1, 1, 0, 0), (.bipush 97, 97, 0, 0), (.isub, 0, 0, 0), (.goto 5, 2, 0, 0)], 0),
  ([(.bipush (-9), 9, 1, 0)], 2),
  ([(.ireturn, 0, 0, 0)], 0),
  ([(.iload_n 0, 0, 0, 0), (.iconst 1, 1, 0, 0), (.if_icmp .ne 29, 5, 0, 0), (.iload_n 1, 1, 0, 0), (.i2l, 0, 0, 0), (.ldc2_w 112, 49, 0, 0), (.ldc2_w 114, 57, 0, 0), (.invokestatic 76, 99, 3, 0), (.ifCond .eq 10, 4, 0, 0), (.iload_n 1, 1, 0, 0), (.bipush 48, 48, 0, 0), (.isub, 0, 0, 0), (.goto 20, 7, 0, 0)], 0),
  ([(.bipush (-9), 9, 1, 0), (.goto 15, 7, 0, 0)], 0),
  ([(.iload_n 1, 1, 0, 0), (.bipush 59, 59, 0, 0), (.if_icmp .ne 7, 6, 0, 0), (.iconst 0, 0, 0, 0), (.goto 5, 7, 0, 0)], 0),
  ([(.bipush (-9), 9, 1, 0)], 7),
  ([(.ireturn, 0, 0, 0)], 0)]
-- 121: X11_readsOrders
def bt_121 : List (List Op × Nat) := [
  ([(.aload_n 0, 0, 0, 0), (.iconst 0, 0, 0, 0), (.putfield 120, 11, 9, 0), (.aload_n 0, 0, 0, 0), (.getfield 25, 11, 6, 0), (.iconst 1, 1, 0, 0), (.iaload, 0, 0, 0), (.istore_n 1, 1, 0, 0), (.iconst 0, 0, 0, 0), (.istore_n 2, 2, 0, 0)], 1),
  ([(.iload_n 2, 2, 0, 0), (.iload_n 1, 1, 0, 0), (.if_icmp .ge 80, 6, 0, 0), (.iload_n 2, 2, 0, 0), (.iconst 3, 3, 0, 0), (.irem, 0, 0, 0), (.istore_n 3, 3, 0, 0), (.iload_n 3, 3, 0, 0), (.aload_n 0, 0, 0, 0), (.getfield 22, 11, 5, 0), (.bipush 42, 42, 0, 0), (.iload_n 2, 2, 0, 0), (.iadd, 0, 0, 0), (.iaload, 0, 0, 0), (.invokestatic 123, 120, 2, 0), (.istore 4, 4, 0, 0), (.iload 4, 4, 0, 0), (.bipush (-9), 9, 1, 0), (.if_icmp .ne 10, 2, 0, 0), (.aload_n 0, 0, 0, 0), (.iconst 0, 0, 0, 0), (.putfield 120, 11, 9, 0), (.iload_n 2, 2, 0, 0), (.ireturn, 0, 0, 0)], 0),
  ([(.iload_n 3, 3, 0, 0), (.iconst 2, 2, 0, 0), (.if_icmp .ge 17, 3, 0, 0), (.aload_n 0, 0, 0, 0), (.getfield 34, 11, 10, 0), (.iconst 2, 2, 0, 0), (.iload_n 2, 2, 0, 0), (.iconst 3, 3, 0, 0), (.idiv, 0, 0, 0), (.imul, 0, 0, 0), (.iload_n 3, 3, 0, 0), (.iadd, 0, 0, 0), (.iload 4, 4, 0, 0), (.iastore, 0, 0, 0)], 3),
  ([(.aload_n 0, 0, 0, 0), (.dup, 0, 0, 0), (.getfield 120, 11, 9, 0), (.iload_n 3, 3, 0, 0), (.iconst 1, 1, 0, 0), (.if_icmp .ne 7, 4, 0, 0), (.iconst 1, 1, 0, 0), (.goto 4, 5, 0, 0)], 0),
  ([(.iconst 0, 0, 0, 0)], 5),
  ([(.iadd, 0, 0, 0), (.putfield 120, 11, 9, 0), (.iinc 2 1, 2, 1, 0), (.goto (-79), 1, 0, 0)], 0),
  ([(.iload_n 1, 1, 0, 0), (.ifCond .le 17, 7, 0, 0), (.iload_n 1, 1, 0, 0), (.iconst 3, 3, 0, 0), (.irem, 0, 0, 0), (.iconst 2, 2, 0, 0), (.if_icmp .eq 10, 7, 0, 0), (.aload_n 0, 0, 0, 0), (.iconst 0, 0, 0, 0), (.putfield 120, 11, 9, 0), (.iload_n 1, 1, 0, 0), (.ireturn, 0, 0, 0)], 0),
  ([(.iconst (-1), 1, 1, 0), (.ireturn, 0, 0, 0)], 0)]
-- 122: X11_readsText
def bt_122 : List (List Op × Nat) := [
  ([(.iload_n 1, 1, 0, 0), (.ifCond .ne 10, 1, 0, 0), (.aload_n 0, 0, 0, 0), (.invokevirtual 126, 119, 0, 11), (.goto 7, 2, 0, 0)], 0),
  ([(.aload_n 0, 0, 0, 0), (.invokevirtual 130, 121, 0, 11)], 2),
  ([(.ireturn, 0, 0, 0)], 0)]
-- 123: X11_fault
def bt_123 : List (List Op × Nat) := [
  ([(.iload_n 1, 1, 0, 0), (.invokestatic 104, 101, 1, 0), (.ifCond .eq 11, 1, 0, 0), (.aload_n 0, 0, 0, 0), (.iload_n 1, 1, 0, 0), (.invokevirtual 133, 122, 1, 11), (.goto 5, 2, 0, 0)], 0),
  ([(.bipush (-2), 2, 1, 0)], 2),
  ([(.ireturn, 0, 0, 0)], 0)]
-- 124: X11_isColumn
def bt_124 : List (List Op × Nat) := [
  ([(.iload_n 0, 0, 0, 0), (.i2l, 0, 0, 0), (.lconst 0, 0, 0, 0), (.ldc2_w 136, 5, 0, 0), (.invokestatic 76, 99, 3, 0), (.ireturn, 1, 0, 0)], 0)]
-- 125: X11_isOrder
def bt_125 : List (List Op × Nat) := [
  ([(.iload_n 1, 1, 0, 0), (.i2l, 0, 0, 0), (.lconst 0, 0, 0, 0), (.aload_n 0, 0, 0, 0), (.getfield 120, 11, 9, 0), (.iconst 1, 1, 0, 0), (.isub, 0, 0, 0), (.i2l, 0, 0, 0), (.invokestatic 76, 99, 3, 0), (.ireturn, 1, 0, 0)], 0)]
-- 126: X11_isWeek
def bt_126 : List (List Op × Nat) := [
  ([(.iload_n 0, 0, 0, 0), (.i2l, 0, 0, 0), (.lconst 0, 0, 0, 0), (.ldc2_w 138, 23, 0, 0), (.invokestatic 76, 99, 3, 0), (.ireturn, 1, 0, 0)], 0)]
-- 127: X11_toldAt
def bt_127 : List (List Op × Nat) := [
  ([(.iload_n 2, 2, 0, 0), (.aload_n 0, 0, 0, 0), (.getfield 28, 11, 7, 0), (.iload_n 1, 1, 0, 0), (.iaload, 0, 0, 0), (.if_icmp .ge 17, 1, 0, 0), (.aload_n 0, 0, 0, 0), (.getfield 31, 11, 8, 0), (.bipush 6, 6, 0, 0), (.iload_n 1, 1, 0, 0), (.imul, 0, 0, 0), (.iload_n 2, 2, 0, 0), (.iadd, 0, 0, 0), (.iaload, 0, 0, 0), (.goto 4, 2, 0, 0)], 0),
  ([(.iconst 0, 0, 0, 0)], 2),
  ([(.ireturn, 0, 0, 0)], 0)]
-- 128: X11_told
def bt_128 : List (List Op × Nat) := [
  ([(.aload_n 0, 0, 0, 0), (.invokevirtual 126, 119, 0, 11), (.pop, 0, 0, 0), (.iload_n 1, 1, 0, 0), (.invokestatic 140, 124, 1, 0), (.ifCond .eq 24, 1, 0, 0), (.iload_n 2, 2, 0, 0), (.i2l, 0, 0, 0), (.lconst 0, 0, 0, 0), (.ldc2_w 136, 5, 0, 0), (.invokestatic 76, 99, 3, 0), (.ifCond .eq 12, 1, 0, 0), (.aload_n 0, 0, 0, 0), (.iload_n 1, 1, 0, 0), (.iload_n 2, 2, 0, 0), (.invokevirtual 143, 127, 2, 11), (.goto 5, 2, 0, 0)], 0),
  ([(.bipush (-2), 2, 1, 0)], 2),
  ([(.ireturn, 0, 0, 0)], 0)]
-- 129: X11_order
def bt_129 : List (List Op × Nat) := [
  ([(.aload_n 0, 0, 0, 0), (.invokevirtual 130, 121, 0, 11), (.pop, 0, 0, 0), (.aload_n 0, 0, 0, 0), (.iload_n 1, 1, 0, 0), (.invokevirtual 146, 125, 1, 11), (.ifCond .eq 23, 1, 0, 0), (.iload_n 2, 2, 0, 0), (.invokestatic 104, 101, 1, 0), (.ifCond .eq 16, 1, 0, 0), (.aload_n 0, 0, 0, 0), (.getfield 34, 11, 10, 0), (.iconst 2, 2, 0, 0), (.iload_n 1, 1, 0, 0), (.imul, 0, 0, 0), (.iload_n 2, 2, 0, 0), (.iadd, 0, 0, 0), (.iaload, 0, 0, 0), (.goto 5, 2, 0, 0)], 0),
  ([(.bipush (-2), 2, 1, 0)], 2),
  ([(.ireturn, 0, 0, 0)], 0)]
-- 130: X11_keeps
def bt_130 : List (List Op × Nat) := [
  ([(.aload_n 0, 0, 0, 0), (.getfield 37, 11, 12, 0), (.iconst 3, 3, 0, 0), (.aload_n 0, 0, 0, 0), (.getfield 149, 11, 11, 0), (.imul, 0, 0, 0), (.iload_n 1, 1, 0, 0), (.iastore, 0, 0, 0), (.aload_n 0, 0, 0, 0), (.getfield 37, 11, 12, 0), (.iconst 3, 3, 0, 0), (.aload_n 0, 0, 0, 0), (.getfield 149, 11, 11, 0), (.imul, 0, 0, 0), (.iconst 1, 1, 0, 0), (.iadd, 0, 0, 0), (.iload_n 2, 2, 0, 0), (.iastore, 0, 0, 0), (.aload_n 0, 0, 0, 0), (.getfield 37, 11, 12, 0), (.iconst 3, 3, 0, 0), (.aload_n 0, 0, 0, 0), (.getfield 149, 11, 11, 0), (.imul, 0, 0, 0), (.iconst 2, 2, 0, 0), (.iadd, 0, 0, 0), (.iload_n 3, 3, 0, 0), (.iastore, 0, 0, 0), (.aload_n 0, 0, 0, 0), (.dup, 0, 0, 0), (.getfield 149, 11, 11, 0), (.iconst 1, 1, 0, 0), (.iadd, 0, 0, 0), (.putfield 149, 11, 11, 0), (.return_, 0, 0, 0)], 0)]
-- 131: X11_event
def bt_131 : List (List Op × Nat) := [
  ([(.iload_n 1, 1, 0, 0), (.i2l, 0, 0, 0), (.lconst 0, 0, 0, 0), (.ldc2_w 89, 2, 0, 0), (.invokestatic 76, 99, 3, 0), (.ifCond .eq 17, 1, 0, 0), (.iload_n 2, 2, 0, 0), (.invokestatic 152, 126, 1, 0), (.ifCond .eq 10, 1, 0, 0), (.iload_n 3, 3, 0, 0), (.invokestatic 140, 124, 1, 0), (.ifCond .ne 6, 2, 0, 0)], 1),
  ([(.bipush (-2), 2, 1, 0), (.ireturn, 0, 0, 0)], 0),
  ([(.aload_n 0, 0, 0, 0), (.getfield 149, 11, 11, 0), (.bipush 8, 8, 0, 0), (.if_icmp .ne 6, 3, 0, 0), (.bipush (-4), 4, 1, 0), (.ireturn, 0, 0, 0)], 0),
  ([(.aload_n 0, 0, 0, 0), (.iload_n 1, 1, 0, 0), (.iload_n 2, 2, 0, 0), (.iload_n 3, 3, 0, 0), (.invokevirtual 155, 130, 3, 11), (.aload_n 0, 0, 0, 0), (.getfield 149, 11, 11, 0), (.ireturn, 0, 0, 0)], 0)]
-- 132: X11_back
def bt_132 : List (List Op × Nat) := [
  ([(.aload_n 0, 0, 0, 0), (.getfield 149, 11, 11, 0), (.ifCond .ne 6, 1, 0, 0), (.bipush (-3), 3, 1, 0), (.ireturn, 0, 0, 0)], 0),
  ([(.aload_n 0, 0, 0, 0), (.dup, 0, 0, 0), (.getfield 149, 11, 11, 0), (.iconst 1, 1, 0, 0), (.isub, 0, 0, 0), (.putfield 149, 11, 11, 0), (.aload_n 0, 0, 0, 0), (.getfield 149, 11, 11, 0), (.ireturn, 0, 0, 0)], 0)]
-- 133: X11_read
def bt_133 : List (List Op × Nat) := [
  ([(.iload_n 1, 1, 0, 0), (.invokestatic 85, 107, 1, 0), (.ifCond .ne 6, 1, 0, 0), (.bipush (-2), 2, 1, 0), (.ireturn, 0, 0, 0)], 0),
  ([(.aload_n 0, 0, 0, 0), (.getfield 7, 11, 0, 0), (.iload_n 1, 1, 0, 0), (.iaload, 0, 0, 0), (.ifCond .ge 9, 2, 0, 0), (.aload_n 0, 0, 0, 0), (.iconst 1, 1, 0, 0), (.invokevirtual 91, 106, 1, 11), (.ireturn, 0, 0, 0)], 0),
  ([(.iconst 0, 0, 0, 0), (.istore_n 2, 2, 0, 0), (.iconst 1, 1, 0, 0), (.istore_n 3, 3, 0, 0)], 3),
  ([(.iload_n 3, 3, 0, 0), (.ifCond .eq 80, 8, 0, 0), (.iconst 3, 3, 0, 0), (.iload_n 2, 2, 0, 0), (.imul, 0, 0, 0), (.iconst 3, 3, 0, 0), (.iadd, 0, 0, 0), (.aload_n 0, 0, 0, 0), (.getfield 13, 11, 1, 0), (.iload_n 1, 1, 0, 0), (.iaload, 0, 0, 0), (.if_icmp .gt 66, 8, 0, 0), (.bipush 60, 60, 0, 0), (.iload_n 1, 1, 0, 0), (.imul, 0, 0, 0), (.iconst 3, 3, 0, 0), (.iload_n 2, 2, 0, 0), (.imul, 0, 0, 0), (.iadd, 0, 0, 0), (.istore 4, 4, 0, 0), (.aload_n 0, 0, 0, 0), (.aload_n 0, 0, 0, 0), (.getfield 16, 11, 2, 0), (.iload 4, 4, 0, 0), (.iaload, 0, 0, 0), (.aload_n 0, 0, 0, 0), (.getfield 16, 11, 2, 0), (.iload 4, 4, 0, 0), (.iconst 1, 1, 0, 0), (.iadd, 0, 0, 0), (.iaload, 0, 0, 0), (.aload_n 0, 0, 0, 0), (.getfield 16, 11, 2, 0), (.iload 4, 4, 0, 0), (.iconst 2, 2, 0, 0), (.iadd, 0, 0, 0), (.iaload, 0, 0, 0), (.invokevirtual 159, 131, 3, 11), (.ifCond .lt 7, 4, 0, 0), (.iconst 1, 1, 0, 0), (.goto 4, 5, 0, 0)], 0),
  ([(.iconst 0, 0, 0, 0)], 5),
  ([(.istore_n 3, 3, 0, 0), (.iload_n 2, 2, 0, 0), (.iload_n 3, 3, 0, 0), (.ifCond .eq 7, 6, 0, 0), (.iconst 1, 1, 0, 0), (.goto 4, 7, 0, 0)], 0),
  ([(.iconst 0, 0, 0, 0)], 7),
  ([(.iadd, 0, 0, 0), (.istore_n 2, 2, 0, 0), (.goto (-78), 3, 0, 0)], 0),
  ([(.iload_n 2, 2, 0, 0), (.ireturn, 0, 0, 0)], 0)]
-- 134: X11_isTold
def bt_134 : List (List Op × Nat) := [
  ([(.iconst 0, 0, 0, 0), (.istore_n 3, 3, 0, 0), (.iconst 0, 0, 0, 0), (.istore 4, 4, 0, 0)], 1),
  ([(.iload 4, 4, 0, 0), (.aload_n 0, 0, 0, 0), (.getfield 149, 11, 11, 0), (.if_icmp .ge 59, 5, 0, 0), (.iload_n 3, 3, 0, 0), (.ifCond .ne 43, 2, 0, 0), (.aload_n 0, 0, 0, 0), (.getfield 37, 11, 12, 0), (.iconst 3, 3, 0, 0), (.iload 4, 4, 0, 0), (.imul, 0, 0, 0), (.iaload, 0, 0, 0), (.iload_n 1, 1, 0, 0), (.if_icmp .ne 34, 3, 0, 0), (.aload_n 0, 0, 0, 0), (.getfield 37, 11, 12, 0), (.iconst 3, 3, 0, 0), (.iload 4, 4, 0, 0), (.imul, 0, 0, 0), (.iconst 1, 1, 0, 0), (.iadd, 0, 0, 0), (.iaload, 0, 0, 0), (.iload_n 2, 2, 0, 0), (.if_icmp .ne 19, 3, 0, 0), (.aload_n 0, 0, 0, 0), (.getfield 161, 11, 13, 0), (.iload 4, 4, 0, 0), (.invokestatic 164, 102, 2, 0), (.ifCond .ne 7, 3, 0, 0)], 2),
  ([(.iconst 1, 1, 0, 0), (.goto 4, 4, 0, 0)], 0),
  ([(.iconst 0, 0, 0, 0)], 4),
  ([(.istore_n 3, 3, 0, 0), (.iinc 4 1, 4, 1, 0), (.goto (-62), 1, 0, 0)], 0),
  ([(.iload_n 3, 3, 0, 0), (.ireturn, 1, 0, 0)], 0)]
-- 135: X11_strawBy
def bt_135 : List (List Op × Nat) := [
  ([(.aload_n 0, 0, 0, 0), (.getfield 70, 11, 14, 0), (.iconst (-1), 1, 1, 0), (.if_icmp .ne 7, 1, 0, 0), (.iconst 0, 0, 0, 0), (.goto 9, 2, 0, 0)], 0),
  ([(.iconst 1, 1, 0, 0), (.aload_n 0, 0, 0, 0), (.getfield 70, 11, 14, 0), (.ishl, 0, 0, 0)], 2),
  ([(.istore_n 2, 2, 0, 0), (.iconst 0, 0, 0, 0), (.istore_n 3, 3, 0, 0)], 3),
  ([(.iload_n 3, 3, 0, 0), (.aload_n 0, 0, 0, 0), (.getfield 149, 11, 11, 0), (.if_icmp .ge 65, 6, 0, 0), (.iload_n 2, 2, 0, 0), (.aload_n 0, 0, 0, 0), (.getfield 37, 11, 12, 0), (.iconst 3, 3, 0, 0), (.iload_n 3, 3, 0, 0), (.imul, 0, 0, 0), (.iaload, 0, 0, 0), (.iconst 2, 2, 0, 0), (.if_icmp .ne 43, 4, 0, 0), (.aload_n 0, 0, 0, 0), (.getfield 37, 11, 12, 0), (.iconst 3, 3, 0, 0), (.iload_n 3, 3, 0, 0), (.imul, 0, 0, 0), (.iconst 1, 1, 0, 0), (.iadd, 0, 0, 0), (.iaload, 0, 0, 0), (.iload_n 1, 1, 0, 0), (.if_icmp .gt 29, 4, 0, 0), (.aload_n 0, 0, 0, 0), (.getfield 161, 11, 13, 0), (.iload_n 3, 3, 0, 0), (.invokestatic 164, 102, 2, 0), (.ifCond .ne 18, 4, 0, 0), (.iconst 1, 1, 0, 0), (.aload_n 0, 0, 0, 0), (.getfield 37, 11, 12, 0), (.iconst 3, 3, 0, 0), (.iload_n 3, 3, 0, 0), (.imul, 0, 0, 0), (.iconst 2, 2, 0, 0), (.iadd, 0, 0, 0), (.iaload, 0, 0, 0), (.ishl, 0, 0, 0), (.goto 4, 5, 0, 0)], 0),
  ([(.iconst 0, 0, 0, 0)], 5),
  ([(.ior, 0, 0, 0), (.istore_n 2, 2, 0, 0), (.iinc 3 1, 3, 1, 0), (.goto (-67), 3, 0, 0)], 0),
  ([(.iload_n 2, 2, 0, 0), (.ireturn, 0, 0, 0)], 0)]
-- 136: X11_topOf
def bt_136 : List (List Op × Nat) := [
  ([(.aload_n 0, 0, 0, 0), (.getfield 40, 11, 17, 0), (.iload_n 1, 1, 0, 0), (.iaload, 0, 0, 0), (.ifCond .ne 7, 1, 0, 0), (.iconst 0, 0, 0, 0), (.goto 21, 2, 0, 0)], 0),
  ([(.aload_n 0, 0, 0, 0), (.getfield 43, 11, 18, 0), (.bipush 6, 6, 0, 0), (.iload_n 1, 1, 0, 0), (.imul, 0, 0, 0), (.aload_n 0, 0, 0, 0), (.getfield 40, 11, 17, 0), (.iload_n 1, 1, 0, 0), (.iaload, 0, 0, 0), (.iadd, 0, 0, 0), (.iconst 1, 1, 0, 0), (.isub, 0, 0, 0), (.iaload, 0, 0, 0)], 2),
  ([(.ireturn, 0, 0, 0)], 0)]
-- 137: X11_greatest
def bt_137 : List (List Op × Nat) := [
  ([(.iconst (-1), 1, 1, 0), (.istore_n 1, 1, 0, 0), (.iconst 0, 0, 0, 0), (.istore_n 2, 2, 0, 0)], 1),
  ([(.iload_n 2, 2, 0, 0), (.bipush 6, 6, 0, 0), (.if_icmp .ge 37, 6, 0, 0), (.aload_n 0, 0, 0, 0), (.iload_n 2, 2, 0, 0), (.invokevirtual 168, 136, 1, 11), (.iload_n 1, 1, 0, 0), (.iconst (-1), 1, 1, 0), (.if_icmp .ne 7, 2, 0, 0), (.iconst 0, 0, 0, 0), (.goto 8, 3, 0, 0)], 0),
  ([(.aload_n 0, 0, 0, 0), (.iload_n 1, 1, 0, 0), (.invokevirtual 168, 136, 1, 11)], 3),
  ([(.if_icmp .le 7, 4, 0, 0), (.iload_n 2, 2, 0, 0), (.goto 4, 5, 0, 0)], 0),
  ([(.iload_n 1, 1, 0, 0)], 5),
  ([(.istore_n 1, 1, 0, 0), (.iinc 2 1, 2, 1, 0), (.goto (-37), 1, 0, 0)], 0),
  ([(.iload_n 1, 1, 0, 0), (.ireturn, 0, 0, 0)], 0)]
-- 138: X11_serves
def bt_138 : List (List Op × Nat) := [
  ([(.aload_n 0, 0, 0, 0), (.invokevirtual 171, 137, 0, 11), (.istore_n 2, 2, 0, 0)], 1),
  ([(.aload_n 0, 0, 0, 0), (.getfield 49, 11, 20, 0), (.iload_n 1, 1, 0, 0), (.iaload, 0, 0, 0), (.aload_n 0, 0, 0, 0), (.getfield 34, 11, 10, 0), (.iconst 2, 2, 0, 0), (.iload_n 1, 1, 0, 0), (.imul, 0, 0, 0), (.iconst 1, 1, 0, 0), (.iadd, 0, 0, 0), (.iaload, 0, 0, 0), (.if_icmp .ge 40, 2, 0, 0), (.iload_n 2, 2, 0, 0), (.iconst (-1), 1, 1, 0), (.if_icmp .eq 35, 2, 0, 0), (.aload_n 0, 0, 0, 0), (.getfield 49, 11, 20, 0), (.iload_n 1, 1, 0, 0), (.dup2, 0, 0, 0), (.iaload, 0, 0, 0), (.aload_n 0, 0, 0, 0), (.iload_n 2, 2, 0, 0), (.invokevirtual 168, 136, 1, 11), (.iadd, 0, 0, 0), (.iastore, 0, 0, 0), (.aload_n 0, 0, 0, 0), (.getfield 40, 11, 17, 0), (.iload_n 2, 2, 0, 0), (.dup2, 0, 0, 0), (.iaload, 0, 0, 0), (.iconst 1, 1, 0, 0), (.isub, 0, 0, 0), (.iastore, 0, 0, 0), (.aload_n 0, 0, 0, 0), (.invokevirtual 171, 137, 0, 11), (.istore_n 2, 2, 0, 0), (.goto (-53), 1, 0, 0)], 0),
  ([(.return_, 0, 0, 0)], 0)]
-- 139: X11_freeOf
def bt_139 : List (List Op × Nat) := [
  ([(.iload_n 2, 2, 0, 0), (.aload_n 0, 0, 0, 0), (.getfield 40, 11, 17, 0), (.iload_n 1, 1, 0, 0), (.iaload, 0, 0, 0), (.iconst 1, 1, 0, 0), (.isub, 0, 0, 0), (.if_icmp .ne 15, 1, 0, 0), (.iload_n 3, 3, 0, 0), (.iload_n 1, 1, 0, 0), (.invokestatic 164, 102, 2, 0), (.ifCond .ne 7, 1, 0, 0), (.iconst 1, 1, 0, 0), (.goto 4, 2, 0, 0)], 0),
  ([(.iconst 0, 0, 0, 0)], 2),
  ([(.istore 4, 4, 0, 0), (.iload 4, 4, 0, 0), (.iload_n 1, 1, 0, 0), (.ifCond .le 19, 3, 0, 0), (.aload_n 0, 0, 0, 0), (.getfield 40, 11, 17, 0), (.iload_n 1, 1, 0, 0), (.iconst 1, 1, 0, 0), (.isub, 0, 0, 0), (.iaload, 0, 0, 0), (.iload_n 2, 2, 0, 0), (.if_icmp .gt 7, 3, 0, 0), (.iconst 1, 1, 0, 0), (.goto 4, 4, 0, 0)], 0),
  ([(.iconst 0, 0, 0, 0)], 4),
  ([(.iadd, 0, 0, 0), (.istore 4, 4, 0, 0), (.iload 4, 4, 0, 0), (.iload_n 1, 1, 0, 0), (.iconst 5, 5, 0, 0), (.if_icmp .ge 19, 5, 0, 0), (.aload_n 0, 0, 0, 0), (.getfield 40, 11, 17, 0), (.iload_n 1, 1, 0, 0), (.iconst 1, 1, 0, 0), (.iadd, 0, 0, 0), (.iaload, 0, 0, 0), (.iload_n 2, 2, 0, 0), (.if_icmp .gt 7, 5, 0, 0), (.iconst 1, 1, 0, 0), (.goto 4, 6, 0, 0)], 0),
  ([(.iconst 0, 0, 0, 0)], 6),
  ([(.iadd, 0, 0, 0), (.ireturn, 0, 0, 0)], 0)]
-- 140: X11_melting
def bt_140 : List (List Op × Nat) := [
  ([(.aload_n 0, 0, 0, 0), (.iload_n 1, 1, 0, 0), (.invokevirtual 174, 135, 1, 11), (.istore_n 2, 2, 0, 0), (.aload_n 0, 0, 0, 0), (.iconst 0, 0, 0, 0), (.iload_n 1, 1, 0, 0), (.invokevirtual 177, 134, 2, 11), (.istore_n 3, 3, 0, 0), (.aload_n 0, 0, 0, 0), (.iconst 1, 1, 0, 0), (.iload_n 1, 1, 0, 0), (.invokevirtual 177, 134, 2, 11), (.istore 4, 4, 0, 0), (.iconst 0, 0, 0, 0), (.istore 5, 5, 0, 0)], 1),
  ([(.iload 5, 5, 0, 0), (.bipush 6, 6, 0, 0), (.if_icmp .ge 131, 8, 0, 0), (.iconst 0, 0, 0, 0), (.istore 6, 6, 0, 0)], 2),
  ([(.iload 6, 6, 0, 0), (.aload_n 0, 0, 0, 0), (.getfield 40, 11, 17, 0), (.iload 5, 5, 0, 0), (.iaload, 0, 0, 0), (.if_icmp .ge 110, 7, 0, 0), (.aload_n 0, 0, 0, 0), (.iload 5, 5, 0, 0), (.iload 6, 6, 0, 0), (.iload_n 2, 2, 0, 0), (.invokevirtual 180, 139, 3, 11), (.istore 7, 7, 0, 0), (.iload_n 3, 3, 0, 0), (.ifCond .eq 30, 3, 0, 0), (.iload 6, 6, 0, 0), (.aload_n 0, 0, 0, 0), (.getfield 40, 11, 17, 0), (.iload 5, 5, 0, 0), (.iaload, 0, 0, 0), (.iconst 1, 1, 0, 0), (.isub, 0, 0, 0), (.if_icmp .ne 16, 3, 0, 0), (.iload_n 2, 2, 0, 0), (.iload 5, 5, 0, 0), (.invokestatic 164, 102, 2, 0), (.ifCond .ne 7, 3, 0, 0), (.iconst 1, 1, 0, 0), (.goto 4, 4, 0, 0)], 0),
  ([(.iconst 0, 0, 0, 0)], 4),
  ([(.istore 8, 8, 0, 0), (.iload 8, 8, 0, 0), (.iload 4, 4, 0, 0), (.ifCond .eq 12, 5, 0, 0), (.iload 7, 7, 0, 0), (.ifCond .le 7, 5, 0, 0), (.iconst 1, 1, 0, 0), (.goto 4, 6, 0, 0)], 0),
  ([(.iconst 0, 0, 0, 0)], 6),
  ([(.iadd, 0, 0, 0), (.istore 8, 8, 0, 0), (.aload_n 0, 0, 0, 0), (.getfield 46, 11, 19, 0), (.bipush 6, 6, 0, 0), (.iload 5, 5, 0, 0), (.imul, 0, 0, 0), (.iload 6, 6, 0, 0), (.iadd, 0, 0, 0), (.iload 7, 7, 0, 0), (.iconst 2, 2, 0, 0), (.idiv, 0, 0, 0), (.iload 8, 8, 0, 0), (.iadd, 0, 0, 0), (.aload_n 0, 0, 0, 0), (.getfield 43, 11, 18, 0), (.bipush 6, 6, 0, 0), (.iload 5, 5, 0, 0), (.imul, 0, 0, 0), (.iload 6, 6, 0, 0), (.iadd, 0, 0, 0), (.iaload, 0, 0, 0), (.invokestatic 183, 103, 2, 0), (.iastore, 0, 0, 0), (.iinc 6 1, 6, 1, 0), (.goto (-116), 2, 0, 0)], 0),
  ([(.iinc 5 1, 5, 1, 0), (.goto (-132), 1, 0, 0)], 0),
  ([(.aload_n 0, 0, 0, 0), (.getfield 58, 11, 23, 0), (.iload_n 1, 1, 0, 0), (.iconst 0, 0, 0, 0), (.iastore, 0, 0, 0), (.iconst 0, 0, 0, 0), (.istore 5, 5, 0, 0)], 9),
  ([(.iload 5, 5, 0, 0), (.bipush 6, 6, 0, 0), (.if_icmp .ge 123, 14, 0, 0), (.iconst 0, 0, 0, 0), (.istore 6, 6, 0, 0), (.iconst 0, 0, 0, 0), (.istore 7, 7, 0, 0)], 10),
  ([(.iload 7, 7, 0, 0), (.aload_n 0, 0, 0, 0), (.getfield 40, 11, 17, 0), (.iload 5, 5, 0, 0), (.iaload, 0, 0, 0), (.if_icmp .ge 90, 13, 0, 0), (.aload_n 0, 0, 0, 0), (.getfield 43, 11, 18, 0), (.bipush 6, 6, 0, 0), (.iload 5, 5, 0, 0), (.imul, 0, 0, 0), (.iload 7, 7, 0, 0), (.iadd, 0, 0, 0), (.iaload, 0, 0, 0), (.aload_n 0, 0, 0, 0), (.getfield 46, 11, 19, 0), (.bipush 6, 6, 0, 0), (.iload 5, 5, 0, 0), (.imul, 0, 0, 0), (.iload 7, 7, 0, 0), (.iadd, 0, 0, 0), (.iaload, 0, 0, 0), (.isub, 0, 0, 0), (.istore 8, 8, 0, 0), (.aload_n 0, 0, 0, 0), (.getfield 58, 11, 23, 0), (.iload_n 1, 1, 0, 0), (.dup2, 0, 0, 0), (.iaload, 0, 0, 0), (.aload_n 0, 0, 0, 0), (.getfield 46, 11, 19, 0), (.bipush 6, 6, 0, 0), (.iload 5, 5, 0, 0), (.imul, 0, 0, 0), (.iload 7, 7, 0, 0), (.iadd, 0, 0, 0), (.iaload, 0, 0, 0), (.iadd, 0, 0, 0), (.iastore, 0, 0, 0), (.aload_n 0, 0, 0, 0), (.getfield 43, 11, 18, 0), (.bipush 6, 6, 0, 0), (.iload 5, 5, 0, 0), (.imul, 0, 0, 0), (.iload 6, 6, 0, 0), (.iadd, 0, 0, 0), (.iload 8, 8, 0, 0), (.iastore, 0, 0, 0), (.iload 6, 6, 0, 0), (.iload 8, 8, 0, 0), (.ifCond .le 7, 11, 0, 0), (.iconst 1, 1, 0, 0), (.goto 4, 12, 0, 0)], 0),
  ([(.iconst 0, 0, 0, 0)], 12),
  ([(.iadd, 0, 0, 0), (.istore 6, 6, 0, 0), (.iinc 7 1, 7, 1, 0), (.goto (-96), 10, 0, 0)], 0),
  ([(.aload_n 0, 0, 0, 0), (.getfield 40, 11, 17, 0), (.iload 5, 5, 0, 0), (.iload 6, 6, 0, 0), (.iastore, 0, 0, 0), (.iinc 5 1, 5, 1, 0), (.goto (-124), 9, 0, 0)], 0),
  ([(.return_, 0, 0, 0)], 0)]
-- 141: X11_passes
def bt_141 : List (List Op × Nat) := [
  ([(.iconst 0, 0, 0, 0), (.istore_n 2, 2, 0, 0)], 1),
  ([(.iload_n 2, 2, 0, 0), (.aload_n 0, 0, 0, 0), (.getfield 120, 11, 9, 0), (.if_icmp .ge 26, 3, 0, 0), (.aload_n 0, 0, 0, 0), (.getfield 34, 11, 10, 0), (.iconst 2, 2, 0, 0), (.iload_n 2, 2, 0, 0), (.imul, 0, 0, 0), (.iaload, 0, 0, 0), (.iload_n 1, 1, 0, 0), (.if_icmp .ne 8, 2, 0, 0), (.aload_n 0, 0, 0, 0), (.iload_n 2, 2, 0, 0), (.invokevirtual 186, 138, 1, 11)], 2),
  ([(.iinc 2 1, 2, 1, 0), (.goto (-28), 1, 0, 0)], 0),
  ([(.aload_n 0, 0, 0, 0), (.iload_n 1, 1, 0, 0), (.invokevirtual 190, 140, 1, 11), (.iconst 0, 0, 0, 0), (.istore_n 2, 2, 0, 0)], 4),
  ([(.iload_n 2, 2, 0, 0), (.bipush 6, 6, 0, 0), (.if_icmp .ge 81, 9, 0, 0), (.aload_n 0, 0, 0, 0), (.getfield 52, 11, 21, 0), (.bipush 6, 6, 0, 0), (.iload_n 1, 1, 0, 0), (.imul, 0, 0, 0), (.iload_n 2, 2, 0, 0), (.iadd, 0, 0, 0), (.aload_n 0, 0, 0, 0), (.getfield 40, 11, 17, 0), (.iload_n 2, 2, 0, 0), (.iaload, 0, 0, 0), (.iastore, 0, 0, 0), (.iconst 0, 0, 0, 0), (.istore_n 3, 3, 0, 0)], 5),
  ([(.iload_n 3, 3, 0, 0), (.bipush 6, 6, 0, 0), (.if_icmp .ge 50, 8, 0, 0), (.aload_n 0, 0, 0, 0), (.getfield 55, 11, 22, 0), (.bipush 36, 36, 0, 0), (.iload_n 1, 1, 0, 0), (.imul, 0, 0, 0), (.bipush 6, 6, 0, 0), (.iload_n 2, 2, 0, 0), (.imul, 0, 0, 0), (.iadd, 0, 0, 0), (.iload_n 3, 3, 0, 0), (.iadd, 0, 0, 0), (.iload_n 3, 3, 0, 0), (.aload_n 0, 0, 0, 0), (.getfield 40, 11, 17, 0), (.iload_n 2, 2, 0, 0), (.iaload, 0, 0, 0), (.if_icmp .ge 17, 6, 0, 0), (.aload_n 0, 0, 0, 0), (.getfield 43, 11, 18, 0), (.bipush 6, 6, 0, 0), (.iload_n 2, 2, 0, 0), (.imul, 0, 0, 0), (.iload_n 3, 3, 0, 0), (.iadd, 0, 0, 0), (.iaload, 0, 0, 0), (.goto 4, 7, 0, 0)], 0),
  ([(.iconst 0, 0, 0, 0)], 7),
  ([(.iastore, 0, 0, 0), (.iinc 3 1, 3, 1, 0), (.goto (-50), 5, 0, 0)], 0),
  ([(.iinc 2 1, 2, 1, 0), (.goto (-81), 4, 0, 0)], 0),
  ([(.return_, 0, 0, 0)], 0)]
-- 142: X11_lives
def bt_142 : List (List Op × Nat) := [
  ([(.iconst 0, 0, 0, 0), (.istore_n 1, 1, 0, 0)], 1),
  ([(.iload_n 1, 1, 0, 0), (.bipush 6, 6, 0, 0), (.if_icmp .ge 108, 8, 0, 0), (.aload_n 0, 0, 0, 0), (.getfield 193, 11, 15, 0), (.aload_n 0, 0, 0, 0), (.getfield 196, 11, 16, 0), (.if_icmp .ne 7, 2, 0, 0), (.iload_n 1, 1, 0, 0), (.goto 34, 5, 0, 0)], 0),
  ([(.iload_n 1, 1, 0, 0), (.aload_n 0, 0, 0, 0), (.getfield 193, 11, 15, 0), (.if_icmp .ne 10, 3, 0, 0), (.aload_n 0, 0, 0, 0), (.getfield 196, 11, 16, 0), (.goto 19, 5, 0, 0)], 0),
  ([(.iload_n 1, 1, 0, 0), (.aload_n 0, 0, 0, 0), (.getfield 196, 11, 16, 0), (.if_icmp .ne 10, 4, 0, 0), (.aload_n 0, 0, 0, 0), (.getfield 193, 11, 15, 0), (.goto 4, 5, 0, 0)], 0),
  ([(.iload_n 1, 1, 0, 0)], 5),
  ([(.istore_n 2, 2, 0, 0), (.aload_n 0, 0, 0, 0), (.getfield 40, 11, 17, 0), (.iload_n 1, 1, 0, 0), (.aload_n 0, 0, 0, 0), (.getfield 28, 11, 7, 0), (.iload_n 2, 2, 0, 0), (.iaload, 0, 0, 0), (.iastore, 0, 0, 0), (.iconst 0, 0, 0, 0), (.istore_n 3, 3, 0, 0)], 6),
  ([(.iload_n 3, 3, 0, 0), (.aload_n 0, 0, 0, 0), (.getfield 40, 11, 17, 0), (.iload_n 1, 1, 0, 0), (.iaload, 0, 0, 0), (.if_icmp .ge 31, 7, 0, 0), (.aload_n 0, 0, 0, 0), (.getfield 43, 11, 18, 0), (.bipush 6, 6, 0, 0), (.iload_n 1, 1, 0, 0), (.imul, 0, 0, 0), (.iload_n 3, 3, 0, 0), (.iadd, 0, 0, 0), (.aload_n 0, 0, 0, 0), (.getfield 31, 11, 8, 0), (.bipush 6, 6, 0, 0), (.iload_n 2, 2, 0, 0), (.imul, 0, 0, 0), (.iload_n 3, 3, 0, 0), (.iadd, 0, 0, 0), (.iaload, 0, 0, 0), (.iastore, 0, 0, 0), (.iinc 3 1, 3, 1, 0), (.goto (-35), 6, 0, 0)], 0),
  ([(.iinc 1 1, 1, 1, 0), (.goto (-108), 1, 0, 0)], 0),
  ([(.iconst 0, 0, 0, 0), (.istore_n 1, 1, 0, 0)], 9),
  ([(.iload_n 1, 1, 0, 0), (.bipush 12, 12, 0, 0), (.if_icmp .ge 16, 10, 0, 0), (.aload_n 0, 0, 0, 0), (.getfield 49, 11, 20, 0), (.iload_n 1, 1, 0, 0), (.iconst 0, 0, 0, 0), (.iastore, 0, 0, 0), (.iinc 1 1, 1, 1, 0), (.goto (-16), 9, 0, 0)], 0),
  ([(.iconst 0, 0, 0, 0), (.istore_n 1, 1, 0, 0)], 11),
  ([(.iload_n 1, 1, 0, 0), (.bipush 24, 24, 0, 0), (.if_icmp .ge 14, 12, 0, 0), (.aload_n 0, 0, 0, 0), (.iload_n 1, 1, 0, 0), (.invokevirtual 199, 141, 1, 11), (.iinc 1 1, 1, 1, 0), (.goto (-14), 11, 0, 0)], 0),
  ([(.return_, 0, 0, 0)], 0)]
-- 143: X11_find
def bt_143 : List (List Op × Nat) := [
  ([(.aload_n 0, 0, 0, 0), (.invokevirtual 126, 119, 0, 11), (.pop, 0, 0, 0), (.aload_n 0, 0, 0, 0), (.invokevirtual 130, 121, 0, 11), (.pop, 0, 0, 0), (.aload_n 0, 0, 0, 0), (.invokevirtual 202, 142, 0, 11), (.return_, 0, 0, 0)], 0)]
-- 144: X11_standsIn
def bt_144 : List (List Op × Nat) := [
  ([(.iconst 0, 0, 0, 0), (.istore_n 3, 3, 0, 0), (.iconst 0, 0, 0, 0), (.istore 4, 4, 0, 0)], 1),
  ([(.iload 4, 4, 0, 0), (.bipush 6, 6, 0, 0), (.if_icmp .ge 29, 2, 0, 0), (.iload_n 3, 3, 0, 0), (.aload_n 0, 0, 0, 0), (.getfield 55, 11, 22, 0), (.bipush 36, 36, 0, 0), (.iload_n 1, 1, 0, 0), (.imul, 0, 0, 0), (.bipush 6, 6, 0, 0), (.iload_n 2, 2, 0, 0), (.imul, 0, 0, 0), (.iadd, 0, 0, 0), (.iload 4, 4, 0, 0), (.iadd, 0, 0, 0), (.iaload, 0, 0, 0), (.iadd, 0, 0, 0), (.istore_n 3, 3, 0, 0), (.iinc 4 1, 4, 1, 0), (.goto (-30), 1, 0, 0)], 0),
  ([(.iload_n 3, 3, 0, 0), (.ireturn, 0, 0, 0)], 0)]
-- 145: X11_columnBy
def bt_145 : List (List Op × Nat) := [
  ([(.iload_n 3, 3, 0, 0), (.ifCond .ne 17, 1, 0, 0), (.aload_n 0, 0, 0, 0), (.getfield 52, 11, 21, 0), (.bipush 6, 6, 0, 0), (.iload_n 1, 1, 0, 0), (.imul, 0, 0, 0), (.iload_n 2, 2, 0, 0), (.iadd, 0, 0, 0), (.iaload, 0, 0, 0), (.goto 9, 2, 0, 0)], 0),
  ([(.aload_n 0, 0, 0, 0), (.iload_n 1, 1, 0, 0), (.iload_n 2, 2, 0, 0), (.invokevirtual 205, 144, 2, 11)], 2),
  ([(.ireturn, 0, 0, 0)], 0)]
-- 146: X11_column
def bt_146 : List (List Op × Nat) := [
  ([(.aload_n 0, 0, 0, 0), (.invokevirtual 208, 143, 0, 11), (.iload_n 1, 1, 0, 0), (.invokestatic 152, 126, 1, 0), (.ifCond .eq 27, 1, 0, 0), (.iload_n 2, 2, 0, 0), (.invokestatic 140, 124, 1, 0), (.ifCond .eq 20, 1, 0, 0), (.iload_n 3, 3, 0, 0), (.invokestatic 104, 101, 1, 0), (.ifCond .eq 13, 1, 0, 0), (.aload_n 0, 0, 0, 0), (.iload_n 1, 1, 0, 0), (.iload_n 2, 2, 0, 0), (.iload_n 3, 3, 0, 0), (.invokevirtual 211, 145, 3, 11), (.goto 5, 2, 0, 0)], 0),
  ([(.bipush (-2), 2, 1, 0)], 2),
  ([(.ireturn, 0, 0, 0)], 0)]
-- 147: X11_block
def bt_147 : List (List Op × Nat) := [
  ([(.aload_n 0, 0, 0, 0), (.invokevirtual 208, 143, 0, 11), (.iload_n 1, 1, 0, 0), (.invokestatic 152, 126, 1, 0), (.ifCond .eq 41, 1, 0, 0), (.iload_n 2, 2, 0, 0), (.invokestatic 140, 124, 1, 0), (.ifCond .eq 34, 1, 0, 0), (.iload_n 3, 3, 0, 0), (.i2l, 0, 0, 0), (.lconst 0, 0, 0, 0), (.ldc2_w 136, 5, 0, 0), (.invokestatic 76, 99, 3, 0), (.ifCond .eq 22, 1, 0, 0), (.aload_n 0, 0, 0, 0), (.getfield 55, 11, 22, 0), (.bipush 36, 36, 0, 0), (.iload_n 1, 1, 0, 0), (.imul, 0, 0, 0), (.bipush 6, 6, 0, 0), (.iload_n 2, 2, 0, 0), (.imul, 0, 0, 0), (.iadd, 0, 0, 0), (.iload_n 3, 3, 0, 0), (.iadd, 0, 0, 0), (.iaload, 0, 0, 0), (.goto 5, 2, 0, 0)], 0),
  ([(.bipush (-2), 2, 1, 0)], 2),
  ([(.ireturn, 0, 0, 0)], 0)]
-- 148: X11_allIce
def bt_148 : List (List Op × Nat) := [
  ([(.iconst 0, 0, 0, 0), (.istore_n 2, 2, 0, 0), (.iconst 0, 0, 0, 0), (.istore_n 3, 3, 0, 0)], 1),
  ([(.iload_n 3, 3, 0, 0), (.bipush 36, 36, 0, 0), (.if_icmp .ge 23, 2, 0, 0), (.iload_n 2, 2, 0, 0), (.aload_n 0, 0, 0, 0), (.getfield 55, 11, 22, 0), (.bipush 36, 36, 0, 0), (.iload_n 1, 1, 0, 0), (.imul, 0, 0, 0), (.iload_n 3, 3, 0, 0), (.iadd, 0, 0, 0), (.iaload, 0, 0, 0), (.iadd, 0, 0, 0), (.istore_n 2, 2, 0, 0), (.iinc 3 1, 3, 1, 0), (.goto (-23), 1, 0, 0)], 0),
  ([(.iload_n 2, 2, 0, 0), (.ireturn, 0, 0, 0)], 0)]
-- 149: X11_iceBy
def bt_149 : List (List Op × Nat) := [
  ([(.iload_n 2, 2, 0, 0), (.ifCond .ne 11, 1, 0, 0), (.aload_n 0, 0, 0, 0), (.iload_n 1, 1, 0, 0), (.invokevirtual 214, 148, 1, 11), (.goto 9, 2, 0, 0)], 0),
  ([(.aload_n 0, 0, 0, 0), (.getfield 58, 11, 23, 0), (.iload_n 1, 1, 0, 0), (.iaload, 0, 0, 0)], 2),
  ([(.ireturn, 0, 0, 0)], 0)]
-- 150: X11_ice
def bt_150 : List (List Op × Nat) := [
  ([(.aload_n 0, 0, 0, 0), (.invokevirtual 208, 143, 0, 11), (.iload_n 1, 1, 0, 0), (.invokestatic 152, 126, 1, 0), (.ifCond .eq 19, 1, 0, 0), (.iload_n 2, 2, 0, 0), (.invokestatic 104, 101, 1, 0), (.ifCond .eq 12, 1, 0, 0), (.aload_n 0, 0, 0, 0), (.iload_n 1, 1, 0, 0), (.iload_n 2, 2, 0, 0), (.invokevirtual 217, 149, 2, 11), (.goto 5, 2, 0, 0)], 0),
  ([(.bipush (-2), 2, 1, 0)], 2),
  ([(.ireturn, 0, 0, 0)], 0)]
-- 151: X11_isShort
def bt_151 : List (List Op × Nat) := [
  ([(.aload_n 0, 0, 0, 0), (.getfield 49, 11, 20, 0), (.iload_n 1, 1, 0, 0), (.iaload, 0, 0, 0), (.aload_n 0, 0, 0, 0), (.getfield 34, 11, 10, 0), (.iconst 2, 2, 0, 0), (.iload_n 1, 1, 0, 0), (.imul, 0, 0, 0), (.iconst 1, 1, 0, 0), (.iadd, 0, 0, 0), (.iaload, 0, 0, 0), (.if_icmp .ge 7, 1, 0, 0), (.iconst 1, 1, 0, 0), (.goto 4, 2, 0, 0)], 0),
  ([(.iconst 0, 0, 0, 0)], 2),
  ([(.ireturn, 1, 0, 0)], 0)]
-- 152: X11_gotBy
def bt_152 : List (List Op × Nat) := [
  ([(.iload_n 2, 2, 0, 0), (.ifCond .ne 12, 1, 0, 0), (.aload_n 0, 0, 0, 0), (.getfield 49, 11, 20, 0), (.iload_n 1, 1, 0, 0), (.iaload, 0, 0, 0), (.goto 16, 3, 0, 0)], 0),
  ([(.aload_n 0, 0, 0, 0), (.iload_n 1, 1, 0, 0), (.invokevirtual 220, 151, 1, 11), (.ifCond .eq 7, 2, 0, 0), (.iconst 1, 1, 0, 0), (.goto 4, 3, 0, 0)], 0),
  ([(.iconst 0, 0, 0, 0)], 3),
  ([(.ireturn, 0, 0, 0)], 0)]
-- 153: X11_got
def bt_153 : List (List Op × Nat) := [
  ([(.aload_n 0, 0, 0, 0), (.invokevirtual 208, 143, 0, 11), (.aload_n 0, 0, 0, 0), (.iload_n 1, 1, 0, 0), (.invokevirtual 146, 125, 1, 11), (.ifCond .eq 19, 1, 0, 0), (.iload_n 2, 2, 0, 0), (.invokestatic 104, 101, 1, 0), (.ifCond .eq 12, 1, 0, 0), (.aload_n 0, 0, 0, 0), (.iload_n 1, 1, 0, 0), (.iload_n 2, 2, 0, 0), (.invokevirtual 223, 152, 2, 11), (.goto 5, 2, 0, 0)], 0),
  ([(.bipush (-2), 2, 1, 0)], 2),
  ([(.ireturn, 0, 0, 0)], 0)]
-- 154: X11_sumBy
def bt_154 : List (List Op × Nat) := [
  ([(.iconst 0, 0, 0, 0), (.istore_n 2, 2, 0, 0), (.iconst 0, 0, 0, 0), (.istore_n 3, 3, 0, 0)], 1),
  ([(.iload_n 3, 3, 0, 0), (.aload_n 0, 0, 0, 0), (.getfield 120, 11, 9, 0), (.if_icmp .ge 18, 2, 0, 0), (.iload_n 2, 2, 0, 0), (.aload_n 0, 0, 0, 0), (.iload_n 3, 3, 0, 0), (.iload_n 1, 1, 0, 0), (.invokevirtual 223, 152, 2, 11), (.iadd, 0, 0, 0), (.istore_n 2, 2, 0, 0), (.iinc 3 1, 3, 1, 0), (.goto (-20), 1, 0, 0)], 0),
  ([(.iload_n 2, 2, 0, 0), (.ireturn, 0, 0, 0)], 0)]
-- 155: X11_sum
def bt_155 : List (List Op × Nat) := [
  ([(.aload_n 0, 0, 0, 0), (.invokevirtual 208, 143, 0, 11), (.iload_n 1, 1, 0, 0), (.invokestatic 104, 101, 1, 0), (.ifCond .eq 11, 1, 0, 0), (.aload_n 0, 0, 0, 0), (.iload_n 1, 1, 0, 0), (.invokevirtual 226, 154, 1, 11), (.goto 5, 2, 0, 0)], 0),
  ([(.bipush (-2), 2, 1, 0)], 2),
  ([(.ireturn, 0, 0, 0)], 0)]
-- 156: X11_bareOf
def bt_156 : List (List Op × Nat) := [
  ([(.iconst (-1), 1, 1, 0), (.istore_n 2, 2, 0, 0), (.bipush 23, 23, 0, 0), (.istore_n 3, 3, 0, 0)], 1),
  ([(.iload_n 3, 3, 0, 0), (.ifCond .lt 29, 4, 0, 0), (.aload_n 0, 0, 0, 0), (.getfield 52, 11, 21, 0), (.bipush 6, 6, 0, 0), (.iload_n 3, 3, 0, 0), (.imul, 0, 0, 0), (.iload_n 1, 1, 0, 0), (.iadd, 0, 0, 0), (.iaload, 0, 0, 0), (.ifCond .ne 7, 2, 0, 0), (.iload_n 3, 3, 0, 0), (.goto 4, 3, 0, 0)], 0),
  ([(.iload_n 2, 2, 0, 0)], 3),
  ([(.istore_n 2, 2, 0, 0), (.iinc 3 (-1), 3, 1, 1), (.goto (-27), 1, 0, 0)], 0),
  ([(.iload_n 2, 2, 0, 0), (.ireturn, 0, 0, 0)], 0)]
-- 157: X11_bare
def bt_157 : List (List Op × Nat) := [
  ([(.aload_n 0, 0, 0, 0), (.invokevirtual 208, 143, 0, 11), (.iload_n 1, 1, 0, 0), (.invokestatic 140, 124, 1, 0), (.ifCond .eq 11, 1, 0, 0), (.aload_n 0, 0, 0, 0), (.iload_n 1, 1, 0, 0), (.invokevirtual 229, 156, 1, 11), (.goto 5, 2, 0, 0)], 0),
  ([(.bipush (-2), 2, 1, 0)], 2),
  ([(.ireturn, 0, 0, 0)], 0)]
-- 158: X11_lastNow
def bt_158 : List (List Op × Nat) := [
  ([(.iconst (-1), 1, 1, 0), (.istore_n 1, 1, 0, 0), (.bipush 23, 23, 0, 0), (.istore_n 2, 2, 0, 0)], 1),
  ([(.iload_n 2, 2, 0, 0), (.ifCond .lt 23, 4, 0, 0), (.aload_n 0, 0, 0, 0), (.iload_n 2, 2, 0, 0), (.invokevirtual 214, 148, 1, 11), (.ifCond .ne 7, 2, 0, 0), (.iload_n 2, 2, 0, 0), (.goto 4, 3, 0, 0)], 0),
  ([(.iload_n 1, 1, 0, 0)], 3),
  ([(.istore_n 1, 1, 0, 0), (.iinc 2 (-1), 2, 1, 1), (.goto (-21), 1, 0, 0)], 0),
  ([(.iload_n 1, 1, 0, 0), (.ireturn, 0, 0, 0)], 0)]
-- 159: X11_last
def bt_159 : List (List Op × Nat) := [
  ([(.aload_n 0, 0, 0, 0), (.invokevirtual 208, 143, 0, 11), (.aload_n 0, 0, 0, 0), (.invokevirtual 232, 158, 0, 11), (.ireturn, 0, 0, 0)], 0)]
-- 160: X11_tallNow
def bt_160 : List (List Op × Nat) := [
  ([(.iconst 0, 0, 0, 0), (.istore_n 1, 1, 0, 0), (.iconst 1, 1, 0, 0), (.istore_n 2, 2, 0, 0)], 1),
  ([(.iload_n 2, 2, 0, 0), (.bipush 6, 6, 0, 0), (.if_icmp .ge 30, 4, 0, 0), (.aload_n 0, 0, 0, 0), (.getfield 40, 11, 17, 0), (.iload_n 2, 2, 0, 0), (.iaload, 0, 0, 0), (.aload_n 0, 0, 0, 0), (.getfield 40, 11, 17, 0), (.iload_n 1, 1, 0, 0), (.iaload, 0, 0, 0), (.if_icmp .le 7, 2, 0, 0), (.iload_n 2, 2, 0, 0), (.goto 4, 3, 0, 0)], 0),
  ([(.iload_n 1, 1, 0, 0)], 3),
  ([(.istore_n 1, 1, 0, 0), (.iinc 2 1, 2, 1, 0), (.goto (-30), 1, 0, 0)], 0),
  ([(.iload_n 1, 1, 0, 0), (.ireturn, 0, 0, 0)], 0)]
-- 161: X11_tall
def bt_161 : List (List Op × Nat) := [
  ([(.aload_n 0, 0, 0, 0), (.invokevirtual 208, 143, 0, 11), (.aload_n 0, 0, 0, 0), (.invokevirtual 235, 160, 0, 11), (.ireturn, 0, 0, 0)], 0)]
-- 162: X11_drainBy
def bt_162 : List (List Op × Nat) := [
  ([(.iconst 0, 0, 0, 0), (.istore_n 2, 2, 0, 0), (.iconst 1, 1, 0, 0), (.istore_n 3, 3, 0, 0)], 1),
  ([(.iload_n 3, 3, 0, 0), (.bipush 24, 24, 0, 0), (.if_icmp .ge 30, 4, 0, 0), (.aload_n 0, 0, 0, 0), (.getfield 58, 11, 23, 0), (.iload_n 3, 3, 0, 0), (.iaload, 0, 0, 0), (.aload_n 0, 0, 0, 0), (.getfield 58, 11, 23, 0), (.iload_n 2, 2, 0, 0), (.iaload, 0, 0, 0), (.if_icmp .le 7, 2, 0, 0), (.iload_n 3, 3, 0, 0), (.goto 4, 3, 0, 0)], 0),
  ([(.iload_n 2, 2, 0, 0)], 3),
  ([(.istore_n 2, 2, 0, 0), (.iinc 3 1, 3, 1, 0), (.goto (-30), 1, 0, 0)], 0),
  ([(.iload_n 1, 1, 0, 0), (.ifCond .ne 7, 5, 0, 0), (.iload_n 2, 2, 0, 0), (.goto 9, 6, 0, 0)], 0),
  ([(.aload_n 0, 0, 0, 0), (.getfield 58, 11, 23, 0), (.iload_n 2, 2, 0, 0), (.iaload, 0, 0, 0)], 6),
  ([(.ireturn, 0, 0, 0)], 0)]
-- 163: X11_drain
def bt_163 : List (List Op × Nat) := [
  ([(.aload_n 0, 0, 0, 0), (.invokevirtual 208, 143, 0, 11), (.iload_n 1, 1, 0, 0), (.invokestatic 104, 101, 1, 0), (.ifCond .eq 11, 1, 0, 0), (.aload_n 0, 0, 0, 0), (.iload_n 1, 1, 0, 0), (.invokevirtual 238, 162, 1, 11), (.goto 5, 2, 0, 0)], 0),
  ([(.bipush (-2), 2, 1, 0)], 2),
  ([(.ireturn, 0, 0, 0)], 0)]
-- 164: X11_coverBy
def bt_164 : List (List Op × Nat) := [
  ([(.iconst (-1), 1, 1, 0), (.istore_n 2, 2, 0, 0), (.iconst (-1), 1, 1, 0), (.istore_n 3, 3, 0, 0), (.iconst 0, 0, 0, 0), (.istore 4, 4, 0, 0)], 1),
  ([(.iload 4, 4, 0, 0), (.bipush 6, 6, 0, 0), (.if_icmp .ge 47, 4, 0, 0), (.aload_n 0, 0, 0, 0), (.iload 4, 4, 0, 0), (.putfield 70, 11, 14, 0), (.aload_n 0, 0, 0, 0), (.invokevirtual 202, 142, 0, 11), (.aload_n 0, 0, 0, 0), (.bipush 23, 23, 0, 0), (.invokevirtual 214, 148, 1, 11), (.istore 5, 5, 0, 0), (.iload 5, 5, 0, 0), (.iload_n 3, 3, 0, 0), (.if_icmp .le 8, 2, 0, 0), (.iload 4, 4, 0, 0), (.goto 4, 3, 0, 0)], 0),
  ([(.iload_n 2, 2, 0, 0)], 3),
  ([(.istore_n 2, 2, 0, 0), (.iload 5, 5, 0, 0), (.iload_n 3, 3, 0, 0), (.invokestatic 241, 104, 2, 0), (.istore_n 3, 3, 0, 0), (.iinc 4 1, 4, 1, 0), (.goto (-48), 1, 0, 0)], 0),
  ([(.aload_n 0, 0, 0, 0), (.iconst (-1), 1, 1, 0), (.putfield 70, 11, 14, 0), (.iload_n 1, 1, 0, 0), (.ifCond .ne 7, 5, 0, 0), (.iload_n 2, 2, 0, 0), (.goto 4, 6, 0, 0)], 0),
  ([(.iload_n 3, 3, 0, 0)], 6),
  ([(.ireturn, 0, 0, 0)], 0)]
-- 165: X11_cover
def bt_165 : List (List Op × Nat) := [
  ([(.aload_n 0, 0, 0, 0), (.invokevirtual 208, 143, 0, 11), (.iload_n 1, 1, 0, 0), (.invokestatic 104, 101, 1, 0), (.ifCond .eq 11, 1, 0, 0), (.aload_n 0, 0, 0, 0), (.iload_n 1, 1, 0, 0), (.invokevirtual 244, 164, 1, 11), (.goto 5, 2, 0, 0)], 0),
  ([(.bipush (-2), 2, 1, 0)], 2),
  ([(.ireturn, 0, 0, 0)], 0)]
-- 166: X11_swapBy
def bt_166 : List (List Op × Nat) := [
  ([(.iconst (-1), 1, 1, 0), (.istore_n 2, 2, 0, 0), (.iconst (-1), 1, 1, 0), (.istore_n 3, 3, 0, 0), (.iconst 0, 0, 0, 0), (.istore 4, 4, 0, 0)], 1),
  ([(.iload 4, 4, 0, 0), (.bipush 36, 36, 0, 0), (.if_icmp .ge 72, 5, 0, 0), (.iload 4, 4, 0, 0), (.bipush 6, 6, 0, 0), (.idiv, 0, 0, 0), (.iload 4, 4, 0, 0), (.bipush 6, 6, 0, 0), (.irem, 0, 0, 0), (.if_icmp .ge 53, 4, 0, 0), (.aload_n 0, 0, 0, 0), (.iload 4, 4, 0, 0), (.bipush 6, 6, 0, 0), (.idiv, 0, 0, 0), (.putfield 193, 11, 15, 0), (.aload_n 0, 0, 0, 0), (.iload 4, 4, 0, 0), (.bipush 6, 6, 0, 0), (.irem, 0, 0, 0), (.putfield 196, 11, 16, 0), (.aload_n 0, 0, 0, 0), (.invokevirtual 202, 142, 0, 11), (.aload_n 0, 0, 0, 0), (.bipush 23, 23, 0, 0), (.invokevirtual 214, 148, 1, 11), (.istore 5, 5, 0, 0), (.iload 5, 5, 0, 0), (.iload_n 3, 3, 0, 0), (.if_icmp .le 8, 2, 0, 0), (.iload 4, 4, 0, 0), (.goto 4, 3, 0, 0)], 0),
  ([(.iload_n 2, 2, 0, 0)], 3),
  ([(.istore_n 2, 2, 0, 0), (.iload 5, 5, 0, 0), (.iload_n 3, 3, 0, 0), (.invokestatic 241, 104, 2, 0), (.istore_n 3, 3, 0, 0)], 4),
  ([(.iinc 4 1, 4, 1, 0), (.goto (-73), 1, 0, 0)], 0),
  ([(.aload_n 0, 0, 0, 0), (.iconst 0, 0, 0, 0), (.putfield 193, 11, 15, 0), (.aload_n 0, 0, 0, 0), (.iconst 0, 0, 0, 0), (.putfield 196, 11, 16, 0), (.iload_n 1, 1, 0, 0), (.ifCond .ne 10, 6, 0, 0), (.iload_n 2, 2, 0, 0), (.bipush 6, 6, 0, 0), (.idiv, 0, 0, 0), (.goto 16, 8, 0, 0)], 0),
  ([(.iload_n 1, 1, 0, 0), (.iconst 1, 1, 0, 0), (.if_icmp .ne 10, 7, 0, 0), (.iload_n 2, 2, 0, 0), (.bipush 6, 6, 0, 0), (.irem, 0, 0, 0), (.goto 4, 8, 0, 0)], 0),
  ([(.iload_n 3, 3, 0, 0)], 8),
  ([(.ireturn, 0, 0, 0)], 0)]
-- 167: X11_swap
def bt_167 : List (List Op × Nat) := [
  ([(.aload_n 0, 0, 0, 0), (.invokevirtual 208, 143, 0, 11), (.iload_n 1, 1, 0, 0), (.i2l, 0, 0, 0), (.lconst 0, 0, 0, 0), (.ldc2_w 89, 2, 0, 0), (.invokestatic 76, 99, 3, 0), (.ifCond .eq 11, 1, 0, 0), (.aload_n 0, 0, 0, 0), (.iload_n 1, 1, 0, 0), (.invokevirtual 247, 166, 1, 11), (.goto 5, 2, 0, 0)], 0),
  ([(.bipush (-2), 2, 1, 0)], 2),
  ([(.ireturn, 0, 0, 0)], 0)]
-- 168: X11_laterOf
def bt_168 : List (List Op × Nat) := [
  ([(.aload_n 0, 0, 0, 0), (.getfield 34, 11, 10, 0), (.iconst 2, 2, 0, 0), (.iload_n 1, 1, 0, 0), (.imul, 0, 0, 0), (.iaload, 0, 0, 0), (.istore_n 3, 3, 0, 0), (.iconst (-1), 1, 1, 0), (.istore 4, 4, 0, 0), (.bipush 99, 99, 0, 0), (.istore 5, 5, 0, 0), (.iconst 0, 0, 0, 0), (.istore 6, 6, 0, 0)], 1),
  ([(.iload 6, 6, 0, 0), (.bipush 24, 24, 0, 0), (.if_icmp .ge 55, 4, 0, 0), (.aload_n 0, 0, 0, 0), (.getfield 34, 11, 10, 0), (.iconst 2, 2, 0, 0), (.iload_n 1, 1, 0, 0), (.imul, 0, 0, 0), (.iload 6, 6, 0, 0), (.iastore, 0, 0, 0), (.aload_n 0, 0, 0, 0), (.invokevirtual 202, 142, 0, 11), (.aload_n 0, 0, 0, 0), (.iconst 1, 1, 0, 0), (.invokevirtual 226, 154, 1, 11), (.istore 7, 7, 0, 0), (.iload 7, 7, 0, 0), (.iload 5, 5, 0, 0), (.if_icmp .ge 8, 2, 0, 0), (.iload 6, 6, 0, 0), (.goto 5, 3, 0, 0)], 0),
  ([(.iload 4, 4, 0, 0)], 3),
  ([(.istore 4, 4, 0, 0), (.iload 7, 7, 0, 0), (.iload 5, 5, 0, 0), (.invokestatic 183, 103, 2, 0), (.istore 5, 5, 0, 0), (.iinc 6 1, 6, 1, 0), (.goto (-56), 1, 0, 0)], 0),
  ([(.aload_n 0, 0, 0, 0), (.getfield 34, 11, 10, 0), (.iconst 2, 2, 0, 0), (.iload_n 1, 1, 0, 0), (.imul, 0, 0, 0), (.iload_n 3, 3, 0, 0), (.iastore, 0, 0, 0), (.iload_n 2, 2, 0, 0), (.ifCond .ne 8, 5, 0, 0), (.iload 4, 4, 0, 0), (.goto 5, 6, 0, 0)], 0),
  ([(.iload 5, 5, 0, 0)], 6),
  ([(.ireturn, 0, 0, 0)], 0)]
-- 169: X11_later
def bt_169 : List (List Op × Nat) := [
  ([(.aload_n 0, 0, 0, 0), (.invokevirtual 208, 143, 0, 11), (.aload_n 0, 0, 0, 0), (.iload_n 1, 1, 0, 0), (.invokevirtual 146, 125, 1, 11), (.ifCond .eq 19, 1, 0, 0), (.iload_n 2, 2, 0, 0), (.invokestatic 104, 101, 1, 0), (.ifCond .eq 12, 1, 0, 0), (.aload_n 0, 0, 0, 0), (.iload_n 1, 1, 0, 0), (.iload_n 2, 2, 0, 0), (.invokevirtual 250, 168, 2, 11), (.goto 5, 2, 0, 0)], 0),
  ([(.bipush (-2), 2, 1, 0)], 2),
  ([(.ireturn, 0, 0, 0)], 0)]
-- 170: X11_isSpared
def bt_170 : List (List Op × Nat) := [
  ([(.aload_n 0, 0, 0, 0), (.iload_n 1, 1, 0, 0), (.putfield 161, 11, 13, 0), (.aload_n 0, 0, 0, 0), (.invokevirtual 202, 142, 0, 11), (.aload_n 0, 0, 0, 0), (.iconst 0, 0, 0, 0), (.putfield 161, 11, 13, 0), (.aload_n 0, 0, 0, 0), (.iconst 1, 1, 0, 0), (.invokevirtual 226, 154, 1, 11), (.ifCond .ne 7, 1, 0, 0), (.iconst 1, 1, 0, 0), (.goto 4, 2, 0, 0)], 0),
  ([(.iconst 0, 0, 0, 0)], 2),
  ([(.ireturn, 1, 0, 0)], 0)]
-- 171: X11_spareBy
def bt_171 : List (List Op × Nat) := [
  ([(.aload_n 0, 0, 0, 0), (.iconst 0, 0, 0, 0), (.invokevirtual 253, 170, 1, 11), (.ifCond .eq 14, 3, 0, 0), (.iload_n 1, 1, 0, 0), (.iconst (-1), 1, 1, 0), (.if_icmp .ne 7, 1, 0, 0), (.iconst 0, 0, 0, 0), (.goto 4, 2, 0, 0)], 0),
  ([(.iconst (-1), 1, 1, 0)], 2),
  ([(.ireturn, 0, 0, 0)], 0),
  ([(.iconst 0, 0, 0, 0), (.istore_n 2, 2, 0, 0)], 4),
  ([(.iload_n 2, 2, 0, 0), (.aload_n 0, 0, 0, 0), (.getfield 149, 11, 11, 0), (.if_icmp .ge 38, 9, 0, 0), (.aload_n 0, 0, 0, 0), (.iconst 1, 1, 0, 0), (.iload_n 2, 2, 0, 0), (.ishl, 0, 0, 0), (.invokevirtual 253, 170, 1, 11), (.ifCond .eq 22, 8, 0, 0), (.iload_n 1, 1, 0, 0), (.iconst (-1), 1, 1, 0), (.if_icmp .ne 7, 5, 0, 0), (.iconst 1, 1, 0, 0), (.goto 12, 7, 0, 0)], 0),
  ([(.iload_n 1, 1, 0, 0), (.ifCond .ne 7, 6, 0, 0), (.iload_n 2, 2, 0, 0), (.goto 4, 7, 0, 0)], 0),
  ([(.iconst (-1), 1, 1, 0)], 7),
  ([(.ireturn, 0, 0, 0)], 0),
  ([(.iinc 2 1, 2, 1, 0), (.goto (-40), 4, 0, 0)], 0),
  ([(.iconst 0, 0, 0, 0), (.istore_n 2, 2, 0, 0)], 10),
  ([(.iload_n 2, 2, 0, 0), (.aload_n 0, 0, 0, 0), (.getfield 149, 11, 11, 0), (.if_icmp .ge 60, 17, 0, 0), (.iload_n 2, 2, 0, 0), (.iconst 1, 1, 0, 0), (.iadd, 0, 0, 0), (.istore_n 3, 3, 0, 0)], 11),
  ([(.iload_n 3, 3, 0, 0), (.aload_n 0, 0, 0, 0), (.getfield 149, 11, 11, 0), (.if_icmp .ge 42, 16, 0, 0), (.aload_n 0, 0, 0, 0), (.iconst 1, 1, 0, 0), (.iload_n 2, 2, 0, 0), (.ishl, 0, 0, 0), (.iconst 1, 1, 0, 0), (.iload_n 3, 3, 0, 0), (.ishl, 0, 0, 0), (.ior, 0, 0, 0), (.invokevirtual 253, 170, 1, 11), (.ifCond .eq 22, 15, 0, 0), (.iload_n 1, 1, 0, 0), (.iconst (-1), 1, 1, 0), (.if_icmp .ne 7, 12, 0, 0), (.iconst 2, 2, 0, 0), (.goto 12, 14, 0, 0)], 0),
  ([(.iload_n 1, 1, 0, 0), (.ifCond .ne 7, 13, 0, 0), (.iload_n 2, 2, 0, 0), (.goto 4, 14, 0, 0)], 0),
  ([(.iload_n 3, 3, 0, 0)], 14),
  ([(.ireturn, 0, 0, 0)], 0),
  ([(.iinc 3 1, 3, 1, 0), (.goto (-44), 11, 0, 0)], 0),
  ([(.iinc 2 1, 2, 1, 0), (.goto (-62), 10, 0, 0)], 0),
  ([(.iconst (-1), 1, 1, 0), (.ireturn, 0, 0, 0)], 0)]
-- 172: X11_spare
def bt_172 : List (List Op × Nat) := [
  ([(.aload_n 0, 0, 0, 0), (.invokevirtual 208, 143, 0, 11), (.iload_n 1, 1, 0, 0), (.i2l, 0, 0, 0), (.ldc2_w 256, 1, 1, 0), (.lconst 1, 1, 0, 0), (.invokestatic 76, 99, 3, 0), (.ifCond .eq 11, 1, 0, 0), (.aload_n 0, 0, 0, 0), (.iload_n 1, 1, 0, 0), (.invokevirtual 258, 171, 1, 11), (.goto 5, 2, 0, 0)], 0),
  ([(.bipush (-2), 2, 1, 0)], 2),
  ([(.ireturn, 0, 0, 0)], 0)]
-- 173: X11_seen
def bt_173 : List (List Op × Nat) := [
  ([(.iload_n 1, 1, 0, 0), (.invokestatic 152, 126, 1, 0), (.ifCond .eq 22, 1, 0, 0), (.iload_n 2, 2, 0, 0), (.invokestatic 140, 124, 1, 0), (.ifCond .eq 15, 1, 0, 0), (.iload_n 3, 3, 0, 0), (.i2l, 0, 0, 0), (.lconst 0, 0, 0, 0), (.ldc2_w 261, 6, 0, 0), (.invokestatic 76, 99, 3, 0), (.ifCond .ne 6, 2, 0, 0)], 1),
  ([(.bipush (-2), 2, 1, 0), (.ireturn, 0, 0, 0)], 0),
  ([(.aload_n 0, 0, 0, 0), (.getfield 263, 11, 24, 0), (.bipush 8, 8, 0, 0), (.if_icmp .ne 6, 3, 0, 0), (.bipush (-4), 4, 1, 0), (.ireturn, 0, 0, 0)], 0),
  ([(.aload_n 0, 0, 0, 0), (.getfield 61, 11, 25, 0), (.iconst 3, 3, 0, 0), (.aload_n 0, 0, 0, 0), (.getfield 263, 11, 24, 0), (.imul, 0, 0, 0), (.iload_n 1, 1, 0, 0), (.iastore, 0, 0, 0), (.aload_n 0, 0, 0, 0), (.getfield 61, 11, 25, 0), (.iconst 3, 3, 0, 0), (.aload_n 0, 0, 0, 0), (.getfield 263, 11, 24, 0), (.imul, 0, 0, 0), (.iconst 1, 1, 0, 0), (.iadd, 0, 0, 0), (.iload_n 2, 2, 0, 0), (.iastore, 0, 0, 0), (.aload_n 0, 0, 0, 0), (.getfield 61, 11, 25, 0), (.iconst 3, 3, 0, 0), (.aload_n 0, 0, 0, 0), (.getfield 263, 11, 24, 0), (.imul, 0, 0, 0), (.iconst 2, 2, 0, 0), (.iadd, 0, 0, 0), (.iload_n 3, 3, 0, 0), (.iastore, 0, 0, 0), (.aload_n 0, 0, 0, 0), (.dup, 0, 0, 0), (.getfield 263, 11, 24, 0), (.iconst 1, 1, 0, 0), (.iadd, 0, 0, 0), (.putfield 263, 11, 24, 0), (.aload_n 0, 0, 0, 0), (.getfield 263, 11, 24, 0), (.ireturn, 0, 0, 0)], 0)]
-- 174: X11_forget
def bt_174 : List (List Op × Nat) := [
  ([(.aload_n 0, 0, 0, 0), (.getfield 263, 11, 24, 0), (.istore_n 1, 1, 0, 0), (.aload_n 0, 0, 0, 0), (.iconst 0, 0, 0, 0), (.putfield 263, 11, 24, 0), (.iload_n 1, 1, 0, 0), (.ireturn, 0, 0, 0)], 0)]
-- 175: X11_isSeen
def bt_175 : List (List Op × Nat) := [
  ([(.aload_n 0, 0, 0, 0), (.invokevirtual 202, 142, 0, 11), (.iconst 1, 1, 0, 0), (.istore_n 1, 1, 0, 0), (.iconst 0, 0, 0, 0), (.istore_n 2, 2, 0, 0)], 1),
  ([(.iload_n 2, 2, 0, 0), (.aload_n 0, 0, 0, 0), (.getfield 263, 11, 24, 0), (.if_icmp .ge 59, 4, 0, 0), (.iload_n 1, 1, 0, 0), (.ifCond .eq 47, 2, 0, 0), (.aload_n 0, 0, 0, 0), (.getfield 52, 11, 21, 0), (.bipush 6, 6, 0, 0), (.aload_n 0, 0, 0, 0), (.getfield 61, 11, 25, 0), (.iconst 3, 3, 0, 0), (.iload_n 2, 2, 0, 0), (.imul, 0, 0, 0), (.iaload, 0, 0, 0), (.imul, 0, 0, 0), (.aload_n 0, 0, 0, 0), (.getfield 61, 11, 25, 0), (.iconst 3, 3, 0, 0), (.iload_n 2, 2, 0, 0), (.imul, 0, 0, 0), (.iconst 1, 1, 0, 0), (.iadd, 0, 0, 0), (.iaload, 0, 0, 0), (.iadd, 0, 0, 0), (.iaload, 0, 0, 0), (.aload_n 0, 0, 0, 0), (.getfield 61, 11, 25, 0), (.iconst 3, 3, 0, 0), (.iload_n 2, 2, 0, 0), (.imul, 0, 0, 0), (.iconst 2, 2, 0, 0), (.iadd, 0, 0, 0), (.iaload, 0, 0, 0), (.if_icmp .ne 7, 2, 0, 0), (.iconst 1, 1, 0, 0), (.goto 4, 3, 0, 0)], 0),
  ([(.iconst 0, 0, 0, 0)], 3),
  ([(.istore_n 1, 1, 0, 0), (.iinc 2 1, 2, 1, 0), (.goto (-61), 1, 0, 0)], 0),
  ([(.iload_n 1, 1, 0, 0), (.ireturn, 1, 0, 0)], 0)]
-- 176: X11_neverNow
def bt_176 : List (List Op × Nat) := [
  ([(.iconst 0, 0, 0, 0), (.istore_n 1, 1, 0, 0), (.iconst 0, 0, 0, 0), (.istore_n 2, 2, 0, 0)], 1),
  ([(.iload_n 2, 2, 0, 0), (.aload_n 0, 0, 0, 0), (.getfield 149, 11, 11, 0), (.if_icmp .ge 33, 4, 0, 0), (.aload_n 0, 0, 0, 0), (.iconst 1, 1, 0, 0), (.iload_n 2, 2, 0, 0), (.ishl, 0, 0, 0), (.putfield 161, 11, 13, 0), (.iload_n 1, 1, 0, 0), (.aload_n 0, 0, 0, 0), (.invokevirtual 266, 175, 0, 11), (.ifCond .eq 9, 2, 0, 0), (.iconst 1, 1, 0, 0), (.iload_n 2, 2, 0, 0), (.ishl, 0, 0, 0), (.goto 4, 3, 0, 0)], 0),
  ([(.iconst 0, 0, 0, 0)], 3),
  ([(.ior, 0, 0, 0), (.istore_n 1, 1, 0, 0), (.iinc 2 1, 2, 1, 0), (.goto (-35), 1, 0, 0)], 0),
  ([(.aload_n 0, 0, 0, 0), (.iconst 0, 0, 0, 0), (.putfield 161, 11, 13, 0), (.iload_n 1, 1, 0, 0), (.ireturn, 0, 0, 0)], 0)]
-- 177: X11_never
def bt_177 : List (List Op × Nat) := [
  ([(.aload_n 0, 0, 0, 0), (.invokevirtual 208, 143, 0, 11), (.aload_n 0, 0, 0, 0), (.invokevirtual 270, 176, 0, 11), (.ireturn, 0, 0, 0)], 0)]
-- 178: X11_rowOf
def bt_178 : List (List Op × Nat) := [
  ([(.iconst 0, 0, 0, 0), (.istore_n 2, 2, 0, 0), (.iconst 0, 0, 0, 0), (.istore_n 3, 3, 0, 0)], 1),
  ([(.iload_n 3, 3, 0, 0), (.bipush 6, 6, 0, 0), (.if_icmp .ge 26, 2, 0, 0), (.bipush 7, 7, 0, 0), (.iload_n 2, 2, 0, 0), (.imul, 0, 0, 0), (.aload_n 0, 0, 0, 0), (.getfield 52, 11, 21, 0), (.bipush 6, 6, 0, 0), (.iload_n 1, 1, 0, 0), (.imul, 0, 0, 0), (.iload_n 3, 3, 0, 0), (.iadd, 0, 0, 0), (.iaload, 0, 0, 0), (.iadd, 0, 0, 0), (.istore_n 2, 2, 0, 0), (.iinc 3 1, 3, 1, 0), (.goto (-26), 1, 0, 0)], 0),
  ([(.iload_n 2, 2, 0, 0), (.ireturn, 0, 0, 0)], 0)]
-- 179: X11_isBlock
def bt_179 : List (List Op × Nat) := [
  ([(.iload_n 1, 1, 0, 0), (.invokestatic 140, 124, 1, 0), (.ifCond .eq 28, 1, 0, 0), (.iload_n 2, 2, 0, 0), (.i2l, 0, 0, 0), (.lconst 0, 0, 0, 0), (.ldc2_w 136, 5, 0, 0), (.invokestatic 76, 99, 3, 0), (.ifCond .eq 16, 1, 0, 0), (.aload_n 0, 0, 0, 0), (.iload_n 1, 1, 0, 0), (.iload_n 2, 2, 0, 0), (.invokevirtual 143, 127, 2, 11), (.ifCond .le 7, 1, 0, 0), (.iconst 1, 1, 0, 0), (.goto 4, 2, 0, 0)], 0),
  ([(.iconst 0, 0, 0, 0)], 2),
  ([(.ireturn, 1, 0, 0)], 0)]
-- 180: X11_sizeOf
def bt_180 : List (List Op × Nat) := [
  ([(.bipush 6, 6, 0, 0), (.iload_n 1, 1, 0, 0), (.imul, 0, 0, 0), (.iload_n 2, 2, 0, 0), (.iadd, 0, 0, 0), (.istore_n 3, 3, 0, 0), (.aload_n 0, 0, 0, 0), (.getfield 31, 11, 8, 0), (.iload_n 3, 3, 0, 0), (.iaload, 0, 0, 0), (.istore 4, 4, 0, 0), (.iconst 0, 0, 0, 0), (.istore 5, 5, 0, 0), (.iconst 1, 1, 0, 0), (.istore 6, 6, 0, 0)], 1),
  ([(.iload 6, 6, 0, 0), (.bipush 10, 10, 0, 0), (.if_icmp .ge 72, 6, 0, 0), (.aload_n 0, 0, 0, 0), (.getfield 31, 11, 8, 0), (.iload_n 3, 3, 0, 0), (.iload 6, 6, 0, 0), (.iastore, 0, 0, 0), (.iload 5, 5, 0, 0), (.aload_n 0, 0, 0, 0), (.invokevirtual 266, 175, 0, 11), (.ifCond .eq 10, 2, 0, 0), (.iconst 1, 1, 0, 0), (.iload 6, 6, 0, 0), (.ishl, 0, 0, 0), (.goto 4, 3, 0, 0)], 0),
  ([(.iconst 0, 0, 0, 0)], 3),
  ([(.ior, 0, 0, 0), (.istore 5, 5, 0, 0), (.iconst 0, 0, 0, 0), (.istore 7, 7, 0, 0)], 4),
  ([(.iload 7, 7, 0, 0), (.bipush 24, 24, 0, 0), (.if_icmp .ge 28, 5, 0, 0), (.aload_n 0, 0, 0, 0), (.getfield 64, 11, 26, 0), (.bipush 24, 24, 0, 0), (.iload 6, 6, 0, 0), (.imul, 0, 0, 0), (.iload 7, 7, 0, 0), (.iadd, 0, 0, 0), (.aload_n 0, 0, 0, 0), (.iload 7, 7, 0, 0), (.invokevirtual 273, 178, 1, 11), (.iastore, 0, 0, 0), (.iinc 7 1, 7, 1, 0), (.goto (-29), 4, 0, 0)], 0),
  ([(.iinc 6 1, 6, 1, 0), (.goto (-73), 1, 0, 0)], 0),
  ([(.aload_n 0, 0, 0, 0), (.getfield 31, 11, 8, 0), (.iload_n 3, 3, 0, 0), (.iload 4, 4, 0, 0), (.iastore, 0, 0, 0), (.iload 5, 5, 0, 0), (.ireturn, 0, 0, 0)], 0)]
-- 181: X11_size
def bt_181 : List (List Op × Nat) := [
  ([(.aload_n 0, 0, 0, 0), (.invokevirtual 208, 143, 0, 11), (.aload_n 0, 0, 0, 0), (.iload_n 1, 1, 0, 0), (.iload_n 2, 2, 0, 0), (.invokevirtual 276, 179, 2, 11), (.ifCond .eq 12, 1, 0, 0), (.aload_n 0, 0, 0, 0), (.iload_n 1, 1, 0, 0), (.iload_n 2, 2, 0, 0), (.invokevirtual 279, 180, 2, 11), (.goto 5, 2, 0, 0)], 0),
  ([(.bipush (-2), 2, 1, 0)], 2),
  ([(.ireturn, 0, 0, 0)], 0)]
-- 182: X11_alike
def bt_182 : List (List Op × Nat) := [
  ([(.iconst 0, 0, 0, 0), (.istore_n 3, 3, 0, 0), (.iconst 1, 1, 0, 0), (.istore 4, 4, 0, 0)], 1),
  ([(.iload 4, 4, 0, 0), (.bipush 10, 10, 0, 0), (.if_icmp .ge 90, 6, 0, 0), (.iconst 0, 0, 0, 0), (.istore 5, 5, 0, 0), (.iconst 1, 1, 0, 0), (.istore 6, 6, 0, 0)], 2),
  ([(.iload 6, 6, 0, 0), (.bipush 10, 10, 0, 0), (.if_icmp .ge 64, 5, 0, 0), (.iload 5, 5, 0, 0), (.iload_n 1, 1, 0, 0), (.iload 4, 4, 0, 0), (.invokestatic 164, 102, 2, 0), (.ifCond .eq 43, 3, 0, 0), (.iload_n 1, 1, 0, 0), (.iload 6, 6, 0, 0), (.invokestatic 164, 102, 2, 0), (.ifCond .eq 34, 3, 0, 0), (.aload_n 0, 0, 0, 0), (.getfield 64, 11, 26, 0), (.bipush 24, 24, 0, 0), (.iload 4, 4, 0, 0), (.imul, 0, 0, 0), (.iload_n 2, 2, 0, 0), (.iadd, 0, 0, 0), (.iaload, 0, 0, 0), (.aload_n 0, 0, 0, 0), (.getfield 64, 11, 26, 0), (.bipush 24, 24, 0, 0), (.iload 6, 6, 0, 0), (.imul, 0, 0, 0), (.iload_n 2, 2, 0, 0), (.iadd, 0, 0, 0), (.iaload, 0, 0, 0), (.if_icmp .ne 7, 3, 0, 0), (.iconst 1, 1, 0, 0), (.goto 4, 4, 0, 0)], 0),
  ([(.iconst 0, 0, 0, 0)], 4),
  ([(.iadd, 0, 0, 0), (.istore 5, 5, 0, 0), (.iinc 6 1, 6, 1, 0), (.goto (-65), 2, 0, 0)], 0),
  ([(.iload 5, 5, 0, 0), (.iload_n 3, 3, 0, 0), (.invokestatic 241, 104, 2, 0), (.istore_n 3, 3, 0, 0), (.iinc 4 1, 4, 1, 0), (.goto (-91), 1, 0, 0)], 0),
  ([(.iload_n 3, 3, 0, 0), (.ireturn, 0, 0, 0)], 0)]
-- 183: X11_askOf
def bt_183 : List (List Op × Nat) := [
  ([(.aload_n 0, 0, 0, 0), (.iload_n 1, 1, 0, 0), (.iload_n 2, 2, 0, 0), (.invokevirtual 279, 180, 2, 11), (.istore_n 3, 3, 0, 0), (.iconst 0, 0, 0, 0), (.istore 4, 4, 0, 0), (.iconst 1, 1, 0, 0), (.istore 5, 5, 0, 0)], 1),
  ([(.iload 5, 5, 0, 0), (.bipush 24, 24, 0, 0), (.if_icmp .ge 35, 4, 0, 0), (.aload_n 0, 0, 0, 0), (.iload_n 3, 3, 0, 0), (.iload 5, 5, 0, 0), (.invokevirtual 282, 182, 2, 11), (.aload_n 0, 0, 0, 0), (.iload_n 3, 3, 0, 0), (.iload 4, 4, 0, 0), (.invokevirtual 282, 182, 2, 11), (.if_icmp .ge 8, 2, 0, 0), (.iload 5, 5, 0, 0), (.goto 5, 3, 0, 0)], 0),
  ([(.iload 4, 4, 0, 0)], 3),
  ([(.istore 4, 4, 0, 0), (.iinc 5 1, 5, 1, 0), (.goto (-36), 1, 0, 0)], 0),
  ([(.iload 4, 4, 0, 0), (.ireturn, 0, 0, 0)], 0)]
-- 184: X11_ask
def bt_184 : List (List Op × Nat) := [
  ([(.aload_n 0, 0, 0, 0), (.invokevirtual 208, 143, 0, 11), (.aload_n 0, 0, 0, 0), (.iload_n 1, 1, 0, 0), (.iload_n 2, 2, 0, 0), (.invokevirtual 276, 179, 2, 11), (.ifCond .eq 12, 1, 0, 0), (.aload_n 0, 0, 0, 0), (.iload_n 1, 1, 0, 0), (.iload_n 2, 2, 0, 0), (.invokevirtual 285, 183, 2, 11), (.goto 5, 2, 0, 0)], 0),
  ([(.bipush (-2), 2, 1, 0)], 2),
  ([(.ireturn, 0, 0, 0)], 0)]
-- 185: X11_chanceOf
def bt_185 : List (List Op × Nat) := [
  ([(.lconst 0, 0, 0, 0), (.lstore 4, 4, 0, 0), (.iconst 0, 0, 0, 0), (.istore 6, 6, 0, 0)], 1),
  ([(.iload 6, 6, 0, 0), (.iconst 1, 1, 0, 0), (.aload_n 0, 0, 0, 0), (.getfield 149, 11, 11, 0), (.ishl, 0, 0, 0), (.if_icmp .ge 84, 8, 0, 0), (.aload_n 0, 0, 0, 0), (.iload 6, 6, 0, 0), (.putfield 161, 11, 13, 0), (.aload_n 0, 0, 0, 0), (.invokevirtual 202, 142, 0, 11), (.aload_n 0, 0, 0, 0), (.iload_n 2, 2, 0, 0), (.invokevirtual 220, 151, 1, 11), (.ifCond .eq 7, 2, 0, 0), (.lconst 1, 1, 0, 0), (.goto 4, 3, 0, 0)], 0),
  ([(.lconst 0, 0, 0, 0)], 3),
  ([(.lstore 7, 7, 0, 0), (.iconst 0, 0, 0, 0), (.istore 9, 9, 0, 0)], 4),
  ([(.iload 9, 9, 0, 0), (.aload_n 0, 0, 0, 0), (.getfield 149, 11, 11, 0), (.if_icmp .ge 34, 7, 0, 0), (.lload 7, 7, 0, 0), (.iload 6, 6, 0, 0), (.iload 9, 9, 0, 0), (.invokestatic 164, 102, 2, 0), (.ifCond .eq 11, 5, 0, 0), (.bipush 16, 16, 0, 0), (.iload_n 1, 1, 0, 0), (.isub, 0, 0, 0), (.i2l, 0, 0, 0), (.goto 5, 6, 0, 0)], 0),
  ([(.iload_n 1, 1, 0, 0), (.i2l, 0, 0, 0)], 6),
  ([(.lmul, 0, 0, 0), (.lstore 7, 7, 0, 0), (.iinc 9 1, 9, 1, 0), (.goto (-37), 4, 0, 0)], 0),
  ([(.lload 4, 4, 0, 0), (.lload 7, 7, 0, 0), (.ladd, 0, 0, 0), (.lstore 4, 4, 0, 0), (.iinc 6 1, 6, 1, 0), (.goto (-89), 1, 0, 0)], 0),
  ([(.aload_n 0, 0, 0, 0), (.iconst 0, 0, 0, 0), (.putfield 161, 11, 13, 0), (.lload 4, 4, 0, 0), (.lconst 1, 1, 0, 0), (.iconst 4, 4, 0, 0), (.aload_n 0, 0, 0, 0), (.getfield 149, 11, 11, 0), (.imul, 0, 0, 0), (.lshl, 0, 0, 0), (.iload_n 3, 3, 0, 0), (.invokestatic 288, 105, 3, 0), (.lreturn, 0, 0, 0)], 0)]
-- 186: X11_chance
def bt_186 : List (List Op × Nat) := [
  ([(.aload_n 0, 0, 0, 0), (.invokevirtual 208, 143, 0, 11), (.iload_n 1, 1, 0, 0), (.i2l, 0, 0, 0), (.lconst 0, 0, 0, 0), (.ldc2_w 292, 16, 0, 0), (.invokestatic 76, 99, 3, 0), (.ifCond .eq 28, 1, 0, 0), (.aload_n 0, 0, 0, 0), (.iload_n 2, 2, 0, 0), (.invokevirtual 146, 125, 1, 11), (.ifCond .eq 20, 1, 0, 0), (.iload_n 3, 3, 0, 0), (.invokestatic 104, 101, 1, 0), (.ifCond .eq 13, 1, 0, 0), (.aload_n 0, 0, 0, 0), (.iload_n 1, 1, 0, 0), (.iload_n 2, 2, 0, 0), (.iload_n 3, 3, 0, 0), (.invokevirtual 294, 185, 3, 11), (.goto 8, 2, 0, 0)], 0),
  ([(.bipush (-2), 2, 1, 0), (.invokestatic 298, 100, 1, 0)], 2),
  ([(.lreturn, 0, 0, 0)], 0)]
-- 187: X11_lot
def bt_187 : List (List Op × Nat) := [
  ([(.aload_n 0, 0, 0, 0), (.ldc_w 302, 1103515245, 0, 0), (.aload_n 0, 0, 0, 0), (.getfield 303, 11, 27, 0), (.imul, 0, 0, 0), (.sipush 12345, 12345, 0, 0), (.iadd, 0, 0, 0), (.putfield 303, 11, 27, 0), (.aload_n 0, 0, 0, 0), (.getfield 303, 11, 27, 0), (.bipush 16, 16, 0, 0), (.iushr, 0, 0, 0), (.iload_n 1, 1, 0, 0), (.irem, 0, 0, 0), (.ireturn, 0, 0, 0)], 0)]
-- 188: X11_summersOf
def bt_188 : List (List Op × Nat) := [
  ([(.aload_n 0, 0, 0, 0), (.getfield 149, 11, 11, 0), (.istore 4, 4, 0, 0), (.iconst 0, 0, 0, 0), (.istore 5, 5, 0, 0)], 1),
  ([(.iload 5, 5, 0, 0), (.bipush 24, 24, 0, 0), (.if_icmp .ge 23, 2, 0, 0), (.aload_n 0, 0, 0, 0), (.getfield 67, 11, 28, 0), (.iload 5, 5, 0, 0), (.aload_n 0, 0, 0, 0), (.getfield 37, 11, 12, 0), (.iload 5, 5, 0, 0), (.iaload, 0, 0, 0), (.iastore, 0, 0, 0), (.iinc 5 1, 5, 1, 0), (.goto (-24), 1, 0, 0)], 0),
  ([(.aload_n 0, 0, 0, 0), (.iload_n 1, 1, 0, 0), (.putfield 303, 11, 27, 0), (.aload_n 0, 0, 0, 0), (.iconst 0, 0, 0, 0), (.putfield 149, 11, 11, 0), (.iconst 0, 0, 0, 0), (.istore 5, 5, 0, 0)], 3),
  ([(.iload 5, 5, 0, 0), (.iload_n 2, 2, 0, 0), (.if_icmp .ge 38, 4, 0, 0), (.aload_n 0, 0, 0, 0), (.iconst 3, 3, 0, 0), (.invokevirtual 306, 187, 1, 11), (.istore 6, 6, 0, 0), (.aload_n 0, 0, 0, 0), (.bipush 24, 24, 0, 0), (.invokevirtual 306, 187, 1, 11), (.istore 7, 7, 0, 0), (.aload_n 0, 0, 0, 0), (.iload 6, 6, 0, 0), (.iload 7, 7, 0, 0), (.aload_n 0, 0, 0, 0), (.bipush 6, 6, 0, 0), (.invokevirtual 306, 187, 1, 11), (.invokevirtual 155, 130, 3, 11), (.iinc 5 1, 5, 1, 0), (.goto (-38), 3, 0, 0)], 0),
  ([(.aload_n 0, 0, 0, 0), (.invokevirtual 202, 142, 0, 11), (.iconst 0, 0, 0, 0), (.istore 5, 5, 0, 0)], 5),
  ([(.iload 5, 5, 0, 0), (.bipush 24, 24, 0, 0), (.if_icmp .ge 23, 6, 0, 0), (.aload_n 0, 0, 0, 0), (.getfield 37, 11, 12, 0), (.iload 5, 5, 0, 0), (.aload_n 0, 0, 0, 0), (.getfield 67, 11, 28, 0), (.iload 5, 5, 0, 0), (.iaload, 0, 0, 0), (.iastore, 0, 0, 0), (.iinc 5 1, 5, 1, 0), (.goto (-24), 5, 0, 0)], 0),
  ([(.aload_n 0, 0, 0, 0), (.iload 4, 4, 0, 0), (.putfield 149, 11, 11, 0), (.iload_n 3, 3, 0, 0), (.ifCond .ne 12, 7, 0, 0), (.aload_n 0, 0, 0, 0), (.bipush 23, 23, 0, 0), (.invokevirtual 214, 148, 1, 11), (.goto 8, 8, 0, 0)], 0),
  ([(.aload_n 0, 0, 0, 0), (.iconst 1, 1, 0, 0), (.invokevirtual 226, 154, 1, 11)], 8),
  ([(.ireturn, 0, 0, 0)], 0)]
-- 189: X11_summers
def bt_189 : List (List Op × Nat) := [
  ([(.aload_n 0, 0, 0, 0), (.invokevirtual 208, 143, 0, 11), (.iload_n 2, 2, 0, 0), (.i2l, 0, 0, 0), (.lconst 0, 0, 0, 0), (.ldc2_w 309, 8, 0, 0), (.invokestatic 76, 99, 3, 0), (.ifCond .eq 20, 1, 0, 0), (.iload_n 3, 3, 0, 0), (.invokestatic 104, 101, 1, 0), (.ifCond .eq 13, 1, 0, 0), (.aload_n 0, 0, 0, 0), (.iload_n 1, 1, 0, 0), (.iload_n 2, 2, 0, 0), (.iload_n 3, 3, 0, 0), (.invokevirtual 311, 188, 3, 11), (.goto 5, 2, 0, 0)], 0),
  ([(.bipush (-2), 2, 1, 0)], 2),
  ([(.ireturn, 0, 0, 0)], 0)]
-- 190: X11_write
def bt_190 : List (List Op × Nat) := [
  ([(.iload_n 1, 1, 0, 0), (.invokestatic 140, 124, 1, 0), (.ifCond .eq 10, 1, 0, 0), (.iload_n 2, 2, 0, 0), (.invokestatic 85, 107, 1, 0), (.ifCond .ne 6, 2, 0, 0)], 1),
  ([(.bipush (-2), 2, 1, 0), (.ireturn, 0, 0, 0)], 0),
  ([(.aload_n 0, 0, 0, 0), (.getfield 7, 11, 0, 0), (.iload_n 2, 2, 0, 0), (.iaload, 0, 0, 0), (.ifCond .ge 9, 3, 0, 0), (.aload_n 0, 0, 0, 0), (.iconst 1, 1, 0, 0), (.invokevirtual 91, 106, 1, 11), (.ireturn, 0, 0, 0)], 0),
  ([(.aload_n 0, 0, 0, 0), (.invokevirtual 208, 143, 0, 11), (.aload_n 0, 0, 0, 0), (.getfield 13, 11, 1, 0), (.iload_n 2, 2, 0, 0), (.iaload, 0, 0, 0), (.bipush 24, 24, 0, 0), (.invokestatic 183, 103, 2, 0), (.istore_n 3, 3, 0, 0), (.iconst 0, 0, 0, 0), (.istore 4, 4, 0, 0)], 4),
  ([(.iload 4, 4, 0, 0), (.iload_n 3, 3, 0, 0), (.if_icmp .ge 37, 5, 0, 0), (.aload_n 0, 0, 0, 0), (.getfield 16, 11, 2, 0), (.bipush 60, 60, 0, 0), (.iload_n 2, 2, 0, 0), (.imul, 0, 0, 0), (.iload 4, 4, 0, 0), (.iadd, 0, 0, 0), (.aload_n 0, 0, 0, 0), (.getfield 7, 11, 0, 0), (.iload_n 2, 2, 0, 0), (.iaload, 0, 0, 0), (.aload_n 0, 0, 0, 0), (.iload 4, 4, 0, 0), (.iload_n 1, 1, 0, 0), (.invokevirtual 205, 144, 2, 11), (.invokestatic 99, 111, 2, 0), (.iastore, 0, 0, 0), (.iinc 4 1, 4, 1, 0), (.goto (-37), 4, 0, 0)], 0),
  ([(.iload_n 3, 3, 0, 0), (.ireturn, 0, 0, 0)], 0)]
-- 191: X11_manyBlocks
def bt_191 : List (List Op × Nat) := [
  ([(.iconst 0, 0, 0, 0), (.istore_n 1, 1, 0, 0), (.iconst 0, 0, 0, 0), (.istore_n 2, 2, 0, 0)], 1),
  ([(.iload_n 2, 2, 0, 0), (.bipush 6, 6, 0, 0), (.if_icmp .ge 18, 2, 0, 0), (.iload_n 1, 1, 0, 0), (.aload_n 0, 0, 0, 0), (.getfield 28, 11, 7, 0), (.iload_n 2, 2, 0, 0), (.iaload, 0, 0, 0), (.iadd, 0, 0, 0), (.istore_n 1, 1, 0, 0), (.iinc 2 1, 2, 1, 0), (.goto (-18), 1, 0, 0)], 0),
  ([(.iload_n 1, 1, 0, 0), (.ireturn, 0, 0, 0)], 0)]
-- 192: X11_count
def bt_192 : List (List Op × Nat) := [
  ([(.aload_n 0, 0, 0, 0), (.invokevirtual 208, 143, 0, 11), (.iload_n 1, 1, 0, 0), (.tableswitch 98 0 8 #[51, 56, 61, 61, 70, 75, 82, 88, 93], 1, 0, 0)], 0),
  ([(.aload_n 0, 0, 0, 0), (.invokevirtual 314, 191, 0, 11), (.ireturn, 0, 0, 0)], 0),
  ([(.aload_n 0, 0, 0, 0), (.getfield 120, 11, 9, 0), (.ireturn, 0, 0, 0)], 0),
  ([(.aload_n 0, 0, 0, 0), (.getfield 25, 11, 6, 0), (.iload_n 1, 1, 0, 0), (.iconst 2, 2, 0, 0), (.isub, 0, 0, 0), (.iaload, 0, 0, 0), (.ireturn, 0, 0, 0)], 0),
  ([(.aload_n 0, 0, 0, 0), (.getfield 149, 11, 11, 0), (.ireturn, 0, 0, 0)], 0),
  ([(.aload_n 0, 0, 0, 0), (.bipush 23, 23, 0, 0), (.invokevirtual 214, 148, 1, 11), (.ireturn, 0, 0, 0)], 0),
  ([(.aload_n 0, 0, 0, 0), (.iconst 1, 1, 0, 0), (.invokevirtual 226, 154, 1, 11), (.ireturn, 0, 0, 0)], 0),
  ([(.aload_n 0, 0, 0, 0), (.getfield 263, 11, 24, 0), (.ireturn, 0, 0, 0)], 0),
  ([(.aload_n 0, 0, 0, 0), (.getfield 80, 11, 4, 0), (.ireturn, 0, 0, 0)], 0),
  ([(.bipush (-2), 2, 1, 0), (.ireturn, 0, 0, 0)], 0)]
-- 193: X11_tellsColumn
def bt_193 : List (List Op × Nat) := [
  ([(.aload_n 0, 0, 0, 0), (.invokevirtual 202, 142, 0, 11), (.ldc2_w 317, 31, 0, 0), (.lload_n 1, 1, 0, 0), (.lmul, 0, 0, 0), (.aload_n 0, 0, 0, 0), (.iload_n 3, 3, 0, 0), (.invokevirtual 229, 156, 1, 11), (.i2l, 0, 0, 0), (.ladd, 0, 0, 0), (.lstore 4, 4, 0, 0), (.iconst 0, 0, 0, 0), (.istore 6, 6, 0, 0)], 1),
  ([(.iload 6, 6, 0, 0), (.bipush 6, 6, 0, 0), (.if_icmp .ge 100, 3, 0, 0), (.aload_n 0, 0, 0, 0), (.invokevirtual 202, 142, 0, 11), (.ldc2_w 317, 31, 0, 0), (.lload 4, 4, 0, 0), (.lmul, 0, 0, 0), (.aload_n 0, 0, 0, 0), (.iload_n 3, 3, 0, 0), (.iload 6, 6, 0, 0), (.invokevirtual 143, 127, 2, 11), (.i2l, 0, 0, 0), (.ladd, 0, 0, 0), (.lstore 4, 4, 0, 0), (.ldc2_w 317, 31, 0, 0), (.lload 4, 4, 0, 0), (.lmul, 0, 0, 0), (.aload_n 0, 0, 0, 0), (.getfield 55, 11, 22, 0), (.sipush 144, 144, 0, 0), (.bipush 6, 6, 0, 0), (.iload_n 3, 3, 0, 0), (.imul, 0, 0, 0), (.iadd, 0, 0, 0), (.iload 6, 6, 0, 0), (.iadd, 0, 0, 0), (.iaload, 0, 0, 0), (.i2l, 0, 0, 0), (.ladd, 0, 0, 0), (.lstore 4, 4, 0, 0), (.aload_n 0, 0, 0, 0), (.iload_n 3, 3, 0, 0), (.iload 6, 6, 0, 0), (.invokevirtual 143, 127, 2, 11), (.ifCond .le 37, 2, 0, 0), (.ldc2_w 317, 31, 0, 0), (.lload 4, 4, 0, 0), (.lmul, 0, 0, 0), (.aload_n 0, 0, 0, 0), (.iload_n 3, 3, 0, 0), (.iload 6, 6, 0, 0), (.invokevirtual 279, 180, 2, 11), (.i2l, 0, 0, 0), (.ladd, 0, 0, 0), (.lstore 4, 4, 0, 0), (.ldc2_w 317, 31, 0, 0), (.lload 4, 4, 0, 0), (.lmul, 0, 0, 0), (.aload_n 0, 0, 0, 0), (.iload_n 3, 3, 0, 0), (.iload 6, 6, 0, 0), (.invokevirtual 285, 183, 2, 11), (.i2l, 0, 0, 0), (.ladd, 0, 0, 0), (.lstore 4, 4, 0, 0)], 2),
  ([(.iinc 6 1, 6, 1, 0), (.goto (-101), 1, 0, 0)], 0),
  ([(.aload_n 0, 0, 0, 0), (.invokevirtual 202, 142, 0, 11), (.ldc2_w 317, 31, 0, 0), (.lload 4, 4, 0, 0), (.lmul, 0, 0, 0), (.aload_n 0, 0, 0, 0), (.bipush 11, 11, 0, 0), (.iload_n 3, 3, 0, 0), (.iconst 0, 0, 0, 0), (.invokevirtual 211, 145, 3, 11), (.i2l, 0, 0, 0), (.ladd, 0, 0, 0), (.lstore 4, 4, 0, 0), (.ldc2_w 317, 31, 0, 0), (.lload 4, 4, 0, 0), (.lmul, 0, 0, 0), (.aload_n 0, 0, 0, 0), (.bipush 11, 11, 0, 0), (.iload_n 3, 3, 0, 0), (.iconst 1, 1, 0, 0), (.invokevirtual 211, 145, 3, 11), (.i2l, 0, 0, 0), (.ladd, 0, 0, 0), (.lreturn, 0, 0, 0)], 0)]
-- 194: X11_tellsOrder
def bt_194 : List (List Op × Nat) := [
  ([(.aload_n 0, 0, 0, 0), (.invokevirtual 202, 142, 0, 11), (.ldc2_w 317, 31, 0, 0), (.lload_n 1, 1, 0, 0), (.lmul, 0, 0, 0), (.aload_n 0, 0, 0, 0), (.getfield 34, 11, 10, 0), (.iconst 2, 2, 0, 0), (.iload_n 3, 3, 0, 0), (.imul, 0, 0, 0), (.iaload, 0, 0, 0), (.i2l, 0, 0, 0), (.ladd, 0, 0, 0), (.lstore 4, 4, 0, 0), (.ldc2_w 317, 31, 0, 0), (.lload 4, 4, 0, 0), (.lmul, 0, 0, 0), (.aload_n 0, 0, 0, 0), (.getfield 34, 11, 10, 0), (.iconst 2, 2, 0, 0), (.iload_n 3, 3, 0, 0), (.imul, 0, 0, 0), (.iconst 1, 1, 0, 0), (.iadd, 0, 0, 0), (.iaload, 0, 0, 0), (.i2l, 0, 0, 0), (.ladd, 0, 0, 0), (.lstore 4, 4, 0, 0), (.ldc2_w 317, 31, 0, 0), (.lload 4, 4, 0, 0), (.lmul, 0, 0, 0), (.aload_n 0, 0, 0, 0), (.iload_n 3, 3, 0, 0), (.iconst 0, 0, 0, 0), (.invokevirtual 223, 152, 2, 11), (.i2l, 0, 0, 0), (.ladd, 0, 0, 0), (.lstore 4, 4, 0, 0), (.ldc2_w 317, 31, 0, 0), (.lload 4, 4, 0, 0), (.lmul, 0, 0, 0), (.aload_n 0, 0, 0, 0), (.iload_n 3, 3, 0, 0), (.iconst 1, 1, 0, 0), (.invokevirtual 223, 152, 2, 11), (.i2l, 0, 0, 0), (.ladd, 0, 0, 0), (.lstore 4, 4, 0, 0), (.ldc2_w 317, 31, 0, 0), (.lload 4, 4, 0, 0), (.lmul, 0, 0, 0), (.aload_n 0, 0, 0, 0), (.iload_n 3, 3, 0, 0), (.iconst 0, 0, 0, 0), (.invokevirtual 250, 168, 2, 11), (.i2l, 0, 0, 0), (.ladd, 0, 0, 0), (.lstore 4, 4, 0, 0), (.ldc2_w 317, 31, 0, 0), (.lload 4, 4, 0, 0), (.lmul, 0, 0, 0), (.aload_n 0, 0, 0, 0), (.iload_n 3, 3, 0, 0), (.iconst 1, 1, 0, 0), (.invokevirtual 250, 168, 2, 11), (.i2l, 0, 0, 0), (.ladd, 0, 0, 0), (.lstore 4, 4, 0, 0), (.ldc2_w 317, 31, 0, 0), (.lload 4, 4, 0, 0), (.lmul, 0, 0, 0), (.aload_n 0, 0, 0, 0), (.iconst 5, 5, 0, 0), (.iload_n 3, 3, 0, 0), (.iconst 0, 0, 0, 0), (.invokevirtual 294, 185, 3, 11), (.ladd, 0, 0, 0), (.lstore 4, 4, 0, 0), (.ldc2_w 317, 31, 0, 0), (.lload 4, 4, 0, 0), (.lmul, 0, 0, 0), (.aload_n 0, 0, 0, 0), (.iconst 5, 5, 0, 0), (.iload_n 3, 3, 0, 0), (.iconst 1, 1, 0, 0), (.invokevirtual 294, 185, 3, 11), (.ladd, 0, 0, 0), (.lreturn, 0, 0, 0)], 0)]
-- 195: X11_digest
def bt_195 : List (List Op × Nat) := [
  ([(.ldc2_w 319, 17, 0, 0), (.lstore_n 1, 1, 0, 0), (.iconst 0, 0, 0, 0), (.istore_n 3, 3, 0, 0)], 1),
  ([(.iload_n 3, 3, 0, 0), (.bipush 8, 8, 0, 0), (.if_icmp .ge 22, 2, 0, 0), (.ldc2_w 317, 31, 0, 0), (.lload_n 1, 1, 0, 0), (.lmul, 0, 0, 0), (.aload_n 0, 0, 0, 0), (.iload_n 3, 3, 0, 0), (.invokevirtual 321, 192, 1, 11), (.i2l, 0, 0, 0), (.ladd, 0, 0, 0), (.lstore_n 1, 1, 0, 0), (.iinc 3 1, 3, 1, 0), (.goto (-22), 1, 0, 0)], 0),
  ([(.iconst 0, 0, 0, 0), (.istore_n 3, 3, 0, 0)], 3),
  ([(.iload_n 3, 3, 0, 0), (.iconst 2, 2, 0, 0), (.if_icmp .ge 22, 4, 0, 0), (.ldc2_w 317, 31, 0, 0), (.lload_n 1, 1, 0, 0), (.lmul, 0, 0, 0), (.aload_n 0, 0, 0, 0), (.iload_n 3, 3, 0, 0), (.invokevirtual 133, 122, 1, 11), (.i2l, 0, 0, 0), (.ladd, 0, 0, 0), (.lstore_n 1, 1, 0, 0), (.iinc 3 1, 3, 1, 0), (.goto (-21), 3, 0, 0)], 0),
  ([(.aload_n 0, 0, 0, 0), (.invokevirtual 202, 142, 0, 11), (.iconst 0, 0, 0, 0), (.istore_n 3, 3, 0, 0)], 5),
  ([(.iload_n 3, 3, 0, 0), (.bipush 24, 24, 0, 0), (.if_icmp .ge 37, 6, 0, 0), (.ldc2_w 317, 31, 0, 0), (.lload_n 1, 1, 0, 0), (.lmul, 0, 0, 0), (.aload_n 0, 0, 0, 0), (.iload_n 3, 3, 0, 0), (.iconst 0, 0, 0, 0), (.invokevirtual 217, 149, 2, 11), (.i2l, 0, 0, 0), (.ladd, 0, 0, 0), (.lstore_n 1, 1, 0, 0), (.ldc2_w 317, 31, 0, 0), (.lload_n 1, 1, 0, 0), (.lmul, 0, 0, 0), (.aload_n 0, 0, 0, 0), (.iload_n 3, 3, 0, 0), (.iconst 1, 1, 0, 0), (.invokevirtual 217, 149, 2, 11), (.i2l, 0, 0, 0), (.ladd, 0, 0, 0), (.lstore_n 1, 1, 0, 0), (.iinc 3 1, 3, 1, 0), (.goto (-37), 5, 0, 0)], 0),
  ([(.iconst 0, 0, 0, 0), (.istore_n 3, 3, 0, 0)], 7),
  ([(.iload_n 3, 3, 0, 0), (.bipush 6, 6, 0, 0), (.if_icmp .ge 16, 8, 0, 0), (.aload_n 0, 0, 0, 0), (.lload_n 1, 1, 0, 0), (.iload_n 3, 3, 0, 0), (.invokevirtual 324, 193, 2, 11), (.lstore_n 1, 1, 0, 0), (.iinc 3 1, 3, 1, 0), (.goto (-16), 7, 0, 0)], 0),
  ([(.iconst 0, 0, 0, 0), (.istore_n 3, 3, 0, 0)], 9),
  ([(.iload_n 3, 3, 0, 0), (.aload_n 0, 0, 0, 0), (.getfield 120, 11, 9, 0), (.if_icmp .ge 16, 10, 0, 0), (.aload_n 0, 0, 0, 0), (.lload_n 1, 1, 0, 0), (.iload_n 3, 3, 0, 0), (.invokevirtual 328, 194, 2, 11), (.lstore_n 1, 1, 0, 0), (.iinc 3 1, 3, 1, 0), (.goto (-18), 9, 0, 0)], 0),
  ([(.aload_n 0, 0, 0, 0), (.invokevirtual 202, 142, 0, 11), (.ldc2_w 317, 31, 0, 0), (.lload_n 1, 1, 0, 0), (.lmul, 0, 0, 0), (.aload_n 0, 0, 0, 0), (.iconst 0, 0, 0, 0), (.invokevirtual 226, 154, 1, 11), (.i2l, 0, 0, 0), (.ladd, 0, 0, 0), (.lstore_n 1, 1, 0, 0), (.ldc2_w 317, 31, 0, 0), (.lload_n 1, 1, 0, 0), (.lmul, 0, 0, 0), (.aload_n 0, 0, 0, 0), (.iconst 1, 1, 0, 0), (.invokevirtual 226, 154, 1, 11), (.i2l, 0, 0, 0), (.ladd, 0, 0, 0), (.lstore_n 1, 1, 0, 0), (.ldc2_w 317, 31, 0, 0), (.lload_n 1, 1, 0, 0), (.lmul, 0, 0, 0), (.aload_n 0, 0, 0, 0), (.invokevirtual 232, 158, 0, 11), (.i2l, 0, 0, 0), (.ladd, 0, 0, 0), (.lstore_n 1, 1, 0, 0), (.ldc2_w 317, 31, 0, 0), (.lload_n 1, 1, 0, 0), (.lmul, 0, 0, 0), (.aload_n 0, 0, 0, 0), (.invokevirtual 235, 160, 0, 11), (.i2l, 0, 0, 0), (.ladd, 0, 0, 0), (.lstore_n 1, 1, 0, 0), (.ldc2_w 317, 31, 0, 0), (.lload_n 1, 1, 0, 0), (.lmul, 0, 0, 0), (.aload_n 0, 0, 0, 0), (.iconst 0, 0, 0, 0), (.invokevirtual 238, 162, 1, 11), (.i2l, 0, 0, 0), (.ladd, 0, 0, 0), (.lstore_n 1, 1, 0, 0), (.ldc2_w 317, 31, 0, 0), (.lload_n 1, 1, 0, 0), (.lmul, 0, 0, 0), (.aload_n 0, 0, 0, 0), (.iconst 1, 1, 0, 0), (.invokevirtual 238, 162, 1, 11), (.i2l, 0, 0, 0), (.ladd, 0, 0, 0), (.lstore_n 1, 1, 0, 0), (.ldc2_w 317, 31, 0, 0), (.lload_n 1, 1, 0, 0), (.lmul, 0, 0, 0), (.aload_n 0, 0, 0, 0), (.iconst 0, 0, 0, 0), (.invokevirtual 244, 164, 1, 11), (.i2l, 0, 0, 0), (.ladd, 0, 0, 0), (.lstore_n 1, 1, 0, 0), (.ldc2_w 317, 31, 0, 0), (.lload_n 1, 1, 0, 0), (.lmul, 0, 0, 0), (.aload_n 0, 0, 0, 0), (.iconst 1, 1, 0, 0), (.invokevirtual 244, 164, 1, 11), (.i2l, 0, 0, 0), (.ladd, 0, 0, 0), (.lstore_n 1, 1, 0, 0), (.iconst 0, 0, 0, 0), (.istore_n 3, 3, 0, 0)], 11),
  ([(.iload_n 3, 3, 0, 0), (.iconst 3, 3, 0, 0), (.if_icmp .ge 22, 12, 0, 0), (.ldc2_w 317, 31, 0, 0), (.lload_n 1, 1, 0, 0), (.lmul, 0, 0, 0), (.aload_n 0, 0, 0, 0), (.iload_n 3, 3, 0, 0), (.invokevirtual 247, 166, 1, 11), (.i2l, 0, 0, 0), (.ladd, 0, 0, 0), (.lstore_n 1, 1, 0, 0), (.iinc 3 1, 3, 1, 0), (.goto (-21), 11, 0, 0)], 0),
  ([(.ldc2_w 317, 31, 0, 0), (.lload_n 1, 1, 0, 0), (.lmul, 0, 0, 0), (.aload_n 0, 0, 0, 0), (.iconst (-1), 1, 1, 0), (.invokevirtual 258, 171, 1, 11), (.i2l, 0, 0, 0), (.ladd, 0, 0, 0), (.lstore_n 1, 1, 0, 0), (.ldc2_w 317, 31, 0, 0), (.lload_n 1, 1, 0, 0), (.lmul, 0, 0, 0), (.aload_n 0, 0, 0, 0), (.iconst 0, 0, 0, 0), (.invokevirtual 258, 171, 1, 11), (.i2l, 0, 0, 0), (.ladd, 0, 0, 0), (.lstore_n 1, 1, 0, 0), (.ldc2_w 317, 31, 0, 0), (.lload_n 1, 1, 0, 0), (.lmul, 0, 0, 0), (.aload_n 0, 0, 0, 0), (.invokevirtual 270, 176, 0, 11), (.i2l, 0, 0, 0), (.ladd, 0, 0, 0), (.lstore_n 1, 1, 0, 0), (.ldc2_w 317, 31, 0, 0), (.lload_n 1, 1, 0, 0), (.lmul, 0, 0, 0), (.aload_n 0, 0, 0, 0), (.bipush 7, 7, 0, 0), (.bipush 6, 6, 0, 0), (.iconst 0, 0, 0, 0), (.invokevirtual 311, 188, 3, 11), (.i2l, 0, 0, 0), (.ladd, 0, 0, 0), (.lstore_n 1, 1, 0, 0), (.ldc2_w 317, 31, 0, 0), (.lload_n 1, 1, 0, 0), (.lmul, 0, 0, 0), (.aload_n 0, 0, 0, 0), (.bipush 7, 7, 0, 0), (.bipush 6, 6, 0, 0), (.iconst 1, 1, 0, 0), (.invokevirtual 311, 188, 3, 11), (.i2l, 0, 0, 0), (.ladd, 0, 0, 0), (.lreturn, 0, 0, 0)], 0)]
-- 196: J6_bitCount_0f7a4
def bt_196 : List (List Op × Nat) := [
  ([(.iload_n 0, 0, 0, 0), (.iload_n 0, 0, 0, 0), (.iconst 1, 1, 0, 0), (.iushr, 0, 0, 0), (.ldc_w 265, 1431655765, 0, 0), (.iand, 0, 0, 0), (.isub, 0, 0, 0), (.istore_n 0, 0, 0, 0), (.iload_n 0, 0, 0, 0), (.ldc_w 266, 858993459, 0, 0), (.iand, 0, 0, 0), (.iload_n 0, 0, 0, 0), (.iconst 2, 2, 0, 0), (.iushr, 0, 0, 0), (.ldc_w 266, 858993459, 0, 0), (.iand, 0, 0, 0), (.iadd, 0, 0, 0), (.istore_n 0, 0, 0, 0), (.iload_n 0, 0, 0, 0), (.iload_n 0, 0, 0, 0), (.iconst 4, 4, 0, 0), (.iushr, 0, 0, 0), (.iadd, 0, 0, 0), (.ldc_w 267, 252645135, 0, 0), (.iand, 0, 0, 0), (.istore_n 0, 0, 0, 0), (.iload_n 0, 0, 0, 0), (.iload_n 0, 0, 0, 0), (.bipush 8, 8, 0, 0), (.iushr, 0, 0, 0), (.iadd, 0, 0, 0), (.istore_n 0, 0, 0, 0), (.iload_n 0, 0, 0, 0), (.iload_n 0, 0, 0, 0), (.bipush 16, 16, 0, 0), (.iushr, 0, 0, 0), (.iadd, 0, 0, 0), (.istore_n 0, 0, 0, 0), (.iload_n 0, 0, 0, 0), (.bipush 63, 63, 0, 0), (.iand, 0, 0, 0), (.ireturn, 0, 0, 0)], 0)]
-- 197: J7_fill_53178
def bt_197 : List (List Op × Nat) := [
  ([(.iconst 0, 0, 0, 0), (.istore_n 2, 2, 0, 0), (.aload_n 0, 0, 0, 0), (.arraylength, 0, 0, 0), (.istore_n 3, 3, 0, 0)], 1),
  ([(.iload_n 2, 2, 0, 0), (.iload_n 3, 3, 0, 0), (.if_icmp .ge 13, 2, 0, 0), (.aload_n 0, 0, 0, 0), (.iload_n 2, 2, 0, 0), (.iload_n 1, 1, 0, 0), (.iastore, 0, 0, 0), (.iinc 2 1, 2, 1, 0), (.goto (-12), 1, 0, 0)], 0),
  ([(.return_, 0, 0, 0)], 0)]
def blkT : List (List (List Op × Nat)) := [bt_0, bt_1, bt_2, bt_3, bt_4, bt_5, bt_6, bt_7, bt_8, bt_9, bt_10, bt_11, bt_12, bt_13, bt_14, bt_15, bt_16, bt_17, bt_18, bt_19, bt_20, bt_21, bt_22, bt_23, bt_24, bt_25, bt_26, bt_27, bt_28, bt_29, bt_30, bt_31, bt_32, bt_33, bt_34, bt_35, bt_36, bt_37, bt_38, bt_39, bt_40, bt_41, bt_42, bt_43, bt_44, bt_45, bt_46, bt_47, bt_48, bt_49, bt_50, bt_51, bt_52, bt_53, bt_54, bt_55, bt_56, bt_57, bt_58, bt_59, bt_60, bt_61, bt_62, bt_63, bt_64, bt_65, bt_66, bt_67, bt_68, bt_69, bt_70, bt_71, bt_72, bt_73, bt_74, bt_75, bt_76, bt_77, bt_78, bt_79, bt_80, bt_81, bt_82, bt_83, bt_84, bt_85, bt_86, bt_87, bt_88, bt_89, bt_90, bt_91, bt_92, bt_93, bt_94, bt_95, bt_96, bt_97, bt_98, bt_99, bt_100, bt_101, bt_102, bt_103, bt_104, bt_105, bt_106, bt_107, bt_108, bt_109, bt_110, bt_111, bt_112, bt_113, bt_114, bt_115, bt_116, bt_117, bt_118, bt_119, bt_120, bt_121, bt_122, bt_123, bt_124, bt_125, bt_126, bt_127, bt_128, bt_129, bt_130, bt_131, bt_132, bt_133, bt_134, bt_135, bt_136, bt_137, bt_138, bt_139, bt_140, bt_141, bt_142, bt_143, bt_144, bt_145, bt_146, bt_147, bt_148, bt_149, bt_150, bt_151, bt_152, bt_153, bt_154, bt_155, bt_156, bt_157, bt_158, bt_159, bt_160, bt_161, bt_162, bt_163, bt_164, bt_165, bt_166, bt_167, bt_168, bt_169, bt_170, bt_171, bt_172, bt_173, bt_174, bt_175, bt_176, bt_177, bt_178, bt_179, bt_180, bt_181, bt_182, bt_183, bt_184, bt_185, bt_186, bt_187, bt_188, bt_189, bt_190, bt_191, bt_192, bt_193, bt_194, bt_195, bt_196, bt_197]
def blk (z k : Nat) : List Op × Nat := (blkT.getD z []).getD k ([], 0)
def bsT : List (List Nat) := [[0, 11, 15], [0, 30], [0, 4, 42, 78, 80, 86], [0, 32], [0, 10, 81, 141, 153, 155, 161, 172, 176, 177], [0, 16, 17], [0, 29, 30], [0, 49], [0], [0, 12, 81, 87], [0, 17, 27, 100, 106, 112], [0, 13, 83, 89], [0, 39, 40], [0], [0, 33, 35, 65, 71, 73, 90, 124, 130, 136], [0, 4, 71, 77], [0, 5, 103, 109], [0, 8, 36, 42], [0, 5, 18, 74, 80, 93], [0, 23, 82, 88, 102, 159, 165], [0, 2, 63], [0, 5, 21], [0, 17, 79], [0], [0, 9, 15], [0, 49], [0, 2, 38, 44], [0], [0, 10, 20, 37, 38], [0, 30, 31], [0, 30, 43, 44, 45], [0], [0], [0, 38], [0, 11], [0, 6, 25, 43, 56, 62], [0, 2, 62], [0, 4, 25], [0, 4, 25], [0, 4, 29], [0], [0, 37, 84, 90], [0, 15, 23, 61, 67, 135, 141], [0, 4, 41, 59, 91], [0, 22, 46, 52], [0, 9, 17, 28, 36, 65, 66, 118, 141, 142, 156, 157, 169, 170, 193, 194, 276, 282], [0, 5, 45], [0, 4, 30], [0], [0, 31], [0], [0, 19, 39, 60], [0, 18, 21, 44], [0, 11], [0, 11, 30], [0, 11, 25, 32], [0, 16, 19], [0, 27, 30, 49, 61], [0, 12, 30], [0, 16], [0, 11, 32, 49, 115, 131], [0, 25, 28, 52, 59], [0, 25, 28], [0, 17, 20, 36, 45], [0, 27, 30, 48, 56], [0, 11, 25, 32], [0, 11, 18, 39, 45], [0, 7, 24, 30], [0, 15, 36, 42], [0, 11, 24, 44, 50, 58, 61], [0, 11, 32, 39], [0, 11, 32, 47, 54], [0, 27, 30, 52, 59], [0, 10, 13, 35, 49, 56], [0, 26, 29, 47], [0], [0], [0, 14, 23], [0, 14, 30], [0, 36, 40, 63, 70], [0, 17, 20, 46, 51], [0, 22, 25, 35], [0, 11, 32], [0, 16, 19, 44], [0, 16, 19, 46], [0, 16, 19, 53, 59, 78, 101, 107], [0, 16, 19, 40, 60, 87], [0, 52, 63, 74, 85, 96, 107, 118, 126, 137, 142], [0, 6, 29, 51, 85, 87, 106, 108, 135], [0], [0, 15, 94, 100], [0], [0], [0, 9, 13, 14], [0, 36, 40, 41], [0], [0, 14, 21], [0], [0, 33], [0, 17, 18], [0], [0], [0, 13, 14], [0, 9, 10], [0, 9, 10], [0, 6, 31, 40, 41], [0], [0], [0, 25, 28, 38, 55, 80], [0, 10, 25], [0, 15, 31, 53, 58], [0, 9, 19, 20], [0, 19, 22, 39], [0, 29, 32], [0, 14, 17, 35, 41, 62, 111, 117, 120, 154, 157, 192], [0, 19, 22, 37, 39, 45], [0, 10], [0, 10, 22], [0, 2, 21], [0, 8, 58, 62, 77, 78, 91, 129, 132, 138], [0, 25, 27, 28, 54, 59, 69, 71], [0, 14, 52, 71, 85, 86, 96, 114], [0, 11, 15], [0, 15, 17], [0], [0], [0], [0, 24, 25], [0, 33, 35], [0, 33, 35], [0], [0, 26, 29, 41], [0, 10], [0, 10, 25, 29, 93, 94, 104, 105, 110], [0, 5, 58, 62, 63, 70], [0, 12, 18, 21, 82, 83, 91], [0, 13, 31], [0, 4, 24, 29, 36, 37, 44], [0, 5, 61], [0, 24, 25, 49, 50, 76, 77], [0, 24, 34, 88, 89, 107, 108, 153, 159, 169, 182, 271, 272, 281, 296], [0, 2, 27, 33, 40, 65, 110, 111, 118, 124], [0, 2, 23, 38, 53, 54, 69, 107, 113, 115, 134, 136, 153], [0], [0, 5, 38], [0, 18, 24], [0, 35, 37], [0, 49, 51], [0, 4, 30], [0, 12, 18], [0, 27, 29], [0, 23, 24], [0, 13, 25, 26], [0, 28, 30], [0, 4, 27], [0, 19, 21], [0, 5, 27, 28, 35], [0, 19, 21], [0, 5, 21, 22, 29], [0], [0, 4, 29, 30, 37], [0], [0, 4, 29, 30, 37, 45, 51], [0, 19, 21], [0, 7, 43, 44, 58, 71, 72], [0, 19, 21], [0, 7, 68, 69, 77, 83, 104, 116, 117], [0, 24, 26], [0, 19, 59, 61, 78, 96, 98], [0, 28, 30], [0, 26, 27], [0, 17, 18, 19, 21, 48, 56, 57, 58, 64, 66, 78, 109, 117, 118, 119, 125, 131], [0, 24, 26], [0, 26, 29, 41], [0], [0, 8, 64, 65, 72], [0, 4, 33, 34, 42], [0], [0, 4, 33], [0, 32, 33], [0, 21, 52, 53, 59, 91, 97], [0, 22, 24], [0, 5, 18, 76, 77, 86, 99], [0, 13, 42, 44, 52], [0, 22, 24], [0, 6, 39, 40, 45, 74, 76, 85, 98], [0, 41, 46], [0], [0, 9, 36, 49, 90, 97, 124, 143, 148], [0, 33, 35], [0, 14, 17, 32, 51, 91], [0, 4, 25], [0, 56, 61, 66, 75, 80, 87, 93, 98, 103], [0, 21, 119, 125], [0], [0, 6, 31, 33, 57, 63, 103, 105, 124, 126, 147, 255, 279], [0], [0, 5, 20]]
def bs (z k : Nat) : Nat := (bsT.getD z []).getD k 0
abbrev MI : Type := MethodName × Nat × Option FieldType × Nat × Nat × Nat
def mT_0 : List MI := [(yX0_textOf, 2, (Option.some (FieldType.object "IceHouse$Text")), 0, 0, 0),
  (yX0_parseBlocks, 1, (Option.none : Option FieldType), 0, 2, 45),
  (yX0_placeBlocks, 4, (Option.some FieldType.int), 0, 1, 22),
  (yX0_parseOrders, 1, (Option.none : Option FieldType), 0, 2, 44),
  (yX0_placeOrders, 5, (Option.some FieldType.int), 0, 1, 20),
  (yX0_isFigure, 1, (Option.some FieldType.boolean), 0, 0, 0),
  (yX1_mayBe, 3, (Option.some FieldType.boolean), 1, 1, 21),
  (yX1_append, 4, (Option.none : Option FieldType), 1, 0, 0),
  (yX2_become, 2, (Option.none : Option FieldType), 2, 1, 60),
  (yX3_findCover, 3, (Option.none : Option FieldType), 3, 4, 143),
  (yX3_findSwap, 4, (Option.none : Option FieldType), 3, 4, 143),
  (yX3_findWait, 3, (Option.none : Option FieldType), 3, 4, 143),
  (yX3_noneIsShortWithout, 2, (Option.some FieldType.boolean), 3, 4, 143),
  (yX3_keepSpare, 4, (Option.none : Option FieldType), 3, 0, 0),
  (yX3_findSpare, 4, (Option.none : Option FieldType), 3, 5, 164),
  (yX3_findNever, 3, (Option.some FieldType.int), 3, 4, 143),
  (yX3_findSizes, 5, (Option.some FieldType.int), 3, 4, 143),
  (yX3_findAsk, 6, (Option.some FieldType.int), 3, 2, 86),
  (yX3_mostAlike, 7, (Option.some FieldType.int), 3, 1, 60),
  (yX3_findChance, 6, (Option.none : Option FieldType), 3, 5, 164),
  (yX3_learnShorts, 2, (Option.none : Option FieldType), 3, 4, 143),
  (yX3_power, 6, (Option.some FieldType.long), 3, 0, 0),
  (yX3_drawnSummer, 7, (Option.some (FieldType.object "IceHouse$Summer")), 3, 4, 143),
  (yX3_nextSeed, 1, (Option.some FieldType.int), 3, 0, 0),
  (yX3_lot, 2, (Option.some FieldType.int), 3, 0, 0)]
def mT_1 : List MI := [(yX4_append, 4, (Option.none : Option FieldType), 4, 0, 0),
  (yX4_fits, 3, (Option.some FieldType.boolean), 4, 1, 21),
  (yX5_renew, 3, (Option.none : Option FieldType), 5, 1, 23),
  (yX5_hindrance, 3, (Option.some FieldType.int), 5, 1, 21),
  (yX5_hasRow, 3, (Option.some FieldType.boolean), 5, 0, 0),
  (yX5_put, 3, (Option.none : Option FieldType), 5, 1, 21),
  (yX6_clearAll, 1, (Option.none : Option FieldType), 6, 1, 23),
  (yX6_become, 2, (Option.none : Option FieldType), 6, 1, 60),
  (yX6_putOnTop, 3, (Option.none : Option FieldType), 6, 0, 0),
  (yX6_takeFromTop, 4, (Option.some FieldType.int), 6, 0, 0),
  (yX6_columnOfGreatestTop, 5, (Option.some FieldType.int), 6, 0, 0),
  (yX6_exchange, 5, (Option.none : Option FieldType), 6, 0, 0),
  (yX6_numberOfBlocks, 3, (Option.some FieldType.int), 6, 0, 0),
  (yX6_total, 3, (Option.some FieldType.int), 6, 0, 0),
  (yX6_shapeOfAll, 3, (Option.some FieldType.int), 6, 0, 0),
  (yX7_highIn, 2, (Option.some FieldType.int), 7, 0, 0),
  (yX7_prepare, 5, (Option.none : Option FieldType), 7, 2, 83),
  (yX7_run, 4, (Option.none : Option FieldType), 7, 3, 120),
  (yX7_serve, 5, (Option.none : Option FieldType), 7, 1, 24),
  (yX7_melt, 4, (Option.some FieldType.int), 7, 2, 97),
  (yX7_meltColumn, 18, (Option.some FieldType.int), 7, 1, 60),
  (yX7_standingIn, 5, (Option.some FieldType.int), 7, 0, 0),
  (yX7_sumOfAll, 3, (Option.some FieldType.int), 7, 0, 0),
  (yX7_shortOrders, 1, (Option.some FieldType.int), 7, 1, 20),
  (yX8_append, 2, (Option.none : Option FieldType), 8, 0, 0)]
def mT_2 : List MI := [(yX9_beCalm, 1, (Option.none : Option FieldType), 9, 1, 23),
  (yX9_happen, 4, (Option.none : Option FieldType), 9, 1, 60),
  (yX10_type, 4, (Option.some FieldType.int), 10, 4, 86),
  (yX10_wipe, 4, (Option.some FieldType.int), 10, 4, 86),
  (yX10_undo, 3, (Option.some FieldType.int), 10, 4, 86),
  (yX10_fault, 2, (Option.some FieldType.int), 10, 1, 21),
  (yX10_told, 3, (Option.some FieldType.int), 10, 1, 21),
  (yX10_order, 3, (Option.some FieldType.int), 10, 1, 21),
  (yX10_event, 4, (Option.some FieldType.int), 10, 2, 43),
  (yX10_back, 1, (Option.some FieldType.int), 10, 1, 20),
  (yX10_read, 9, (Option.some FieldType.int), 10, 2, 43),
  (yX10_column, 5, (Option.some FieldType.int), 10, 5, 163),
  (yX10_block, 4, (Option.some FieldType.int), 10, 5, 163),
  (yX10_ice, 3, (Option.some FieldType.int), 10, 5, 163),
  (yX10_got, 4, (Option.some FieldType.int), 10, 5, 163),
  (yX10_sum, 2, (Option.some FieldType.int), 10, 5, 163),
  (yX10_bare, 4, (Option.some FieldType.int), 10, 5, 163),
  (yX10_last, 3, (Option.some FieldType.int), 10, 5, 163),
  (yX10_tall, 4, (Option.some FieldType.int), 10, 5, 163),
  (yX10_drain, 5, (Option.some FieldType.int), 10, 5, 163),
  (yX10_cover, 2, (Option.some FieldType.int), 10, 5, 165),
  (yX10_swap, 2, (Option.some FieldType.int), 10, 5, 166),
  (yX10_later, 3, (Option.some FieldType.int), 10, 5, 165),
  (yX10_spare, 2, (Option.some FieldType.int), 10, 6, 187),
  (yX10_seen, 4, (Option.some FieldType.int), 10, 1, 23)]
def mT_3 : List MI := [(yX10_forget, 2, (Option.some FieldType.int), 10, 0, 0),
  (yX10_never, 1, (Option.some FieldType.int), 10, 5, 165),
  (yX10_size, 3, (Option.some FieldType.int), 10, 5, 167),
  (yX10_ask, 3, (Option.some FieldType.int), 10, 5, 167),
  (yX10_chance, 4, (Option.some FieldType.long), 10, 6, 189),
  (yX10_summers, 5, (Option.some FieldType.int), 10, 5, 169),
  (yX10_sheet, 4, (Option.some FieldType.int), 10, 2, 45),
  (yX10_lose, 3, (Option.some FieldType.int), 10, 1, 21),
  (yX10_lay, 6, (Option.some FieldType.int), 10, 2, 43),
  (yX10_get, 5, (Option.some FieldType.int), 10, 2, 43),
  (yX10_copy, 8, (Option.some FieldType.int), 10, 1, 60),
  (yX10_write, 7, (Option.some FieldType.int), 10, 5, 163),
  (yX10_count, 2, (Option.some FieldType.int), 10, 5, 163),
  (yX10_digest, 4, (Option.some FieldType.long), 10, 7, 214),
  (yX10_mixed, 4, (Option.some FieldType.long), 10, 0, 0),
  (yX10_mixedColumn, 8, (Option.some FieldType.long), 10, 6, 187),
  (yX10_mixedOrder, 6, (Option.some FieldType.long), 10, 6, 189),
  (yX10_mixedPlans, 6, (Option.some FieldType.long), 10, 6, 187),
  (yX10_outside, 2, (Option.some FieldType.boolean), 10, 0, 0),
  (yX10_isNoBlock, 3, (Option.some FieldType.boolean), 10, 1, 21),
  (yX10_found, 2, (Option.some FieldType.int), 10, 0, 0),
  (yX10_noteChangedText, 2, (Option.none : Option FieldType), 10, 3, 65),
  (yX10_noteChange, 1, (Option.none : Option FieldType), 10, 0, 0),
  (yX10_toldSummer, 1, (Option.some (FieldType.object "IceHouse$Summer")), 10, 4, 143),
  (yX11_in, 6, (Option.some FieldType.boolean), 11, 0, 0)]
def mT_4 : List MI := [(yX11_no, 1, (Option.some FieldType.long), 11, 0, 0),
  (yX11_isTwo, 1, (Option.some FieldType.boolean), 11, 1, 25),
  (yX11_isIn, 2, (Option.some FieldType.boolean), 11, 0, 0),
  (yX11_lesser, 2, (Option.some FieldType.int), 11, 0, 0),
  (yX11_greater, 2, (Option.some FieldType.int), 11, 0, 0),
  (yX11_part, 11, (Option.some FieldType.long), 11, 0, 0),
  (yX11_finds, 2, (Option.some FieldType.int), 11, 0, 0),
  (yX11_isSheet, 1, (Option.some FieldType.boolean), 11, 1, 25),
  (yX11_sheet, 5, (Option.some FieldType.int), 11, 2, 45),
  (yX11_lose, 2, (Option.some FieldType.int), 11, 2, 45),
  (yX11_lacks, 4, (Option.some FieldType.int), 11, 1, 25),
  (yX11_cut, 2, (Option.some FieldType.int), 11, 0, 0),
  (yX11_lay, 6, (Option.some FieldType.int), 11, 2, 48),
  (yX11_get, 4, (Option.some FieldType.int), 11, 2, 48),
  (yX11_copy, 7, (Option.some FieldType.int), 11, 2, 45),
  (yX11_type, 3, (Option.some FieldType.int), 11, 2, 45),
  (yX11_wipe, 3, (Option.some FieldType.int), 11, 2, 45),
  (yX11_undo, 2, (Option.some FieldType.int), 11, 2, 45),
  (yX11_bares, 2, (Option.none : Option FieldType), 11, 0, 0),
  (yX11_readsBlocks, 6, (Option.some FieldType.int), 11, 1, 25),
  (yX11_orderOf, 2, (Option.some FieldType.int), 11, 1, 25),
  (yX11_readsOrders, 5, (Option.some FieldType.int), 11, 2, 46),
  (yX11_readsText, 2, (Option.some FieldType.int), 11, 3, 70),
  (yX11_fault, 2, (Option.some FieldType.int), 11, 4, 91),
  (yX11_isColumn, 1, (Option.some FieldType.boolean), 11, 1, 25)]
def mT_5 : List MI := [(yX11_isOrder, 2, (Option.some FieldType.boolean), 11, 1, 25),
  (yX11_isWeek, 1, (Option.some FieldType.boolean), 11, 1, 25),
  (yX11_toldAt, 3, (Option.some FieldType.int), 11, 0, 0),
  (yX11_told, 3, (Option.some FieldType.int), 11, 2, 50),
  (yX11_order, 3, (Option.some FieldType.int), 11, 3, 70),
  (yX11_keeps, 4, (Option.none : Option FieldType), 11, 0, 0),
  (yX11_event, 4, (Option.some FieldType.int), 11, 2, 45),
  (yX11_back, 1, (Option.some FieldType.int), 11, 0, 0),
  (yX11_read, 5, (Option.some FieldType.int), 11, 3, 68),
  (yX11_isTold, 5, (Option.some FieldType.boolean), 11, 1, 21),
  (yX11_strawBy, 4, (Option.some FieldType.int), 11, 1, 21),
  (yX11_topOf, 2, (Option.some FieldType.int), 11, 0, 0),
  (yX11_greatest, 3, (Option.some FieldType.int), 11, 1, 21),
  (yX11_serves, 3, (Option.none : Option FieldType), 11, 2, 43),
  (yX11_freeOf, 5, (Option.some FieldType.int), 11, 1, 21),
  (yX11_melting, 9, (Option.none : Option FieldType), 11, 2, 45),
  (yX11_passes, 4, (Option.none : Option FieldType), 11, 3, 73),
  (yX11_lives, 4, (Option.none : Option FieldType), 11, 4, 96),
  (yX11_find, 1, (Option.none : Option FieldType), 11, 5, 119),
  (yX11_standsIn, 5, (Option.some FieldType.int), 11, 0, 0),
  (yX11_columnBy, 4, (Option.some FieldType.int), 11, 1, 24),
  (yX11_column, 4, (Option.some FieldType.int), 11, 6, 139),
  (yX11_block, 4, (Option.some FieldType.int), 11, 6, 139),
  (yX11_allIce, 4, (Option.some FieldType.int), 11, 0, 0),
  (yX11_iceBy, 3, (Option.some FieldType.int), 11, 1, 23)]
def mT_6 : List MI := [(yX11_ice, 3, (Option.some FieldType.int), 11, 6, 139),
  (yX11_isShort, 2, (Option.some FieldType.boolean), 11, 0, 0),
  (yX11_gotBy, 3, (Option.some FieldType.int), 11, 1, 21),
  (yX11_got, 3, (Option.some FieldType.int), 11, 6, 139),
  (yX11_sumBy, 4, (Option.some FieldType.int), 11, 2, 43),
  (yX11_sum, 2, (Option.some FieldType.int), 11, 6, 139),
  (yX11_bareOf, 4, (Option.some FieldType.int), 11, 0, 0),
  (yX11_bare, 2, (Option.some FieldType.int), 11, 6, 139),
  (yX11_lastNow, 3, (Option.some FieldType.int), 11, 1, 23),
  (yX11_last, 1, (Option.some FieldType.int), 11, 6, 139),
  (yX11_tallNow, 3, (Option.some FieldType.int), 11, 0, 0),
  (yX11_tall, 1, (Option.some FieldType.int), 11, 6, 139),
  (yX11_drainBy, 4, (Option.some FieldType.int), 11, 0, 0),
  (yX11_drain, 2, (Option.some FieldType.int), 11, 6, 139),
  (yX11_coverBy, 6, (Option.some FieldType.int), 11, 5, 119),
  (yX11_cover, 2, (Option.some FieldType.int), 11, 6, 144),
  (yX11_swapBy, 6, (Option.some FieldType.int), 11, 5, 119),
  (yX11_swap, 2, (Option.some FieldType.int), 11, 6, 144),
  (yX11_laterOf, 8, (Option.some FieldType.int), 11, 5, 119),
  (yX11_later, 3, (Option.some FieldType.int), 11, 6, 146),
  (yX11_isSpared, 2, (Option.some FieldType.boolean), 11, 5, 119),
  (yX11_spareBy, 4, (Option.some FieldType.int), 11, 6, 140),
  (yX11_spare, 2, (Option.some FieldType.int), 11, 7, 163),
  (yX11_seen, 4, (Option.some FieldType.int), 11, 2, 45),
  (yX11_forget, 2, (Option.some FieldType.int), 11, 0, 0)]
def mT_7 : List MI := [(yX11_isSeen, 3, (Option.some FieldType.boolean), 11, 5, 119),
  (yX11_neverNow, 3, (Option.some FieldType.int), 11, 6, 141),
  (yX11_never, 1, (Option.some FieldType.int), 11, 7, 163),
  (yX11_rowOf, 4, (Option.some FieldType.int), 11, 0, 0),
  (yX11_isBlock, 3, (Option.some FieldType.boolean), 11, 2, 45),
  (yX11_sizeOf, 8, (Option.some FieldType.int), 11, 6, 141),
  (yX11_size, 3, (Option.some FieldType.int), 11, 7, 168),
  (yX11_alike, 7, (Option.some FieldType.int), 11, 1, 21),
  (yX11_askOf, 6, (Option.some FieldType.int), 11, 7, 168),
  (yX11_ask, 3, (Option.some FieldType.int), 11, 8, 193),
  (yX11_chanceOf, 10, (Option.some FieldType.long), 11, 5, 119),
  (yX11_chance, 4, (Option.some FieldType.long), 11, 6, 148),
  (yX11_lot, 2, (Option.some FieldType.int), 11, 0, 0),
  (yX11_summersOf, 8, (Option.some FieldType.int), 11, 5, 119),
  (yX11_summers, 4, (Option.some FieldType.int), 11, 6, 146),
  (yX11_write, 5, (Option.some FieldType.int), 11, 6, 139),
  (yX11_manyBlocks, 3, (Option.some FieldType.int), 11, 0, 0),
  (yX11_count, 2, (Option.some FieldType.int), 11, 6, 139),
  (yX11_tellsColumn, 7, (Option.some FieldType.long), 11, 8, 193),
  (yX11_tellsOrder, 6, (Option.some FieldType.long), 11, 6, 148),
  (yX11_digest, 4, (Option.some FieldType.long), 11, 9, 219),
  (yJ6_bitCount_0f7a4, 1, (Option.some FieldType.int), 12, 0, 0),
  (yJ7_fill_53178, 4, (Option.none : Option FieldType), 13, 0, 0)]
def mT : List MI := mT_0 ++ mT_1 ++ mT_2 ++ mT_3 ++ mT_4 ++ mT_5 ++ mT_6 ++ mT_7
def mi (z : Nat) : MI := mT.getD z (yL_law, 0, none, 14, 0, 0)
def my (z : Nat) : MethodName := (mi z).1
def mL (z : Nat) : Nat := (mi z).2.1
def mr (z : Nat) : Option FieldType := (mi z).2.2.1
def mc (z : Nat) : Nat := (mi z).2.2.2.1
def mf (z : Nat) : Nat := (mi z).2.2.2.2.1
def mo (z : Nat) : Nat := (mi z).2.2.2.2.2
def rn (c : Nat) : String := ([RX0, RX1, RX2, RX3, RX4, RX5, RX6, RX7, RX8, RX9, RX10, RX11, RJ6, RJ7] : List String).getD c RL
def tT (c : Nat) : u_T := ([TX0, TX1, TX2, TX3, TX4, TX5, TX6, TX7, TX8, TX9, TX10, TX11] : List u_T).getD c TX0
def nF (c : Nat) : Nat := ([8, 4, 3, 10, 4, 3, 2, 11, 3, 3, 6, 29] : List Nat).getD c 0
abbrev cls_ : List vw_C := [(RX0, TX0, 8), (RX1, TX1, 4), (RX2, TX2, 3), (RX3, TX3, 10), (RX4, TX4, 4), (RX5, TX5, 3), (RX6, TX6, 2), (RX7, TX7, 11), (RX8, TX8, 3), (RX9, TX9, 3), (RX10, TX10, 6), (RX11, TX11, 29)]
def jtT : List (Int × List Nat × Nat) := [(0, [1, 2, 3, 4, 5, 6, 7, 8, 9], 10), (0, [1, 2, 3, 3, 4, 5, 6, 7, 8], 9)]
