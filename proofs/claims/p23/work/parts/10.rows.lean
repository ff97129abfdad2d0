theorem dX1_size_0 : decode cX1_size 0 = .ok (.aload_n 0, 1) := by decide +kernel
theorem dX1_size_1 : decode cX1_size 1 = .ok (.getfield 21, 3) := by decide +kernel
theorem dX1_size_4 : decode cX1_size 4 = .ok (.ireturn, 1) := by decide +kernel
theorem dX1_room_0 : decode cX1_room 0 = .ok (.aload_n 0, 1) := by decide +kernel
theorem dX1_room_1 : decode cX1_room 1 = .ok (.getfield 15, 3) := by decide +kernel
theorem dX1_room_4 : decode cX1_room 4 = .ok (.arraylength, 1) := by decide +kernel
theorem dX1_room_5 : decode cX1_room 5 = .ok (.aload_n 0, 1) := by decide +kernel
theorem dX1_room_6 : decode cX1_room 6 = .ok (.getfield 21, 3) := by decide +kernel
theorem dX1_room_9 : decode cX1_room 9 = .ok (.isub, 1) := by decide +kernel
theorem dX1_room_10 : decode cX1_room 10 = .ok (.ireturn, 1) := by decide +kernel
theorem dX1_clear_0 : decode cX1_clear 0 = .ok (.aload_n 0, 1) := by decide +kernel
theorem dX1_clear_1 : decode cX1_clear 1 = .ok (.iconst 0, 1) := by decide +kernel
theorem dX1_clear_2 : decode cX1_clear 2 = .ok (.putfield 21, 3) := by decide +kernel
theorem dX1_clear_5 : decode cX1_clear 5 = .ok (.return_, 1) := by decide +kernel
theorem dX1_put_0 : decode cX1_put 0 = .ok (.aload_n 0, 1) := by decide +kernel
theorem dX1_put_1 : decode cX1_put 1 = .ok (.getfield 21, 3) := by decide +kernel
theorem dX1_put_4 : decode cX1_put 4 = .ok (.aload_n 0, 1) := by decide +kernel
theorem dX1_put_5 : decode cX1_put 5 = .ok (.getfield 15, 3) := by decide +kernel
theorem dX1_put_8 : decode cX1_put 8 = .ok (.arraylength, 1) := by decide +kernel
theorem dX1_put_9 : decode cX1_put 9 = .ok (.if_icmp .ge 24, 3) := by decide +kernel
theorem dX1_put_12 : decode cX1_put 12 = .ok (.aload_n 0, 1) := by decide +kernel
theorem dX1_put_13 : decode cX1_put 13 = .ok (.getfield 15, 3) := by decide +kernel
theorem dX1_put_16 : decode cX1_put 16 = .ok (.aload_n 0, 1) := by decide +kernel
theorem dX1_put_17 : decode cX1_put 17 = .ok (.getfield 21, 3) := by decide +kernel
theorem dX1_put_20 : decode cX1_put 20 = .ok (.iload_n 1, 1) := by decide +kernel
theorem dX1_put_21 : decode cX1_put 21 = .ok (.i2c, 1) := by decide +kernel
theorem dX1_put_22 : decode cX1_put 22 = .ok (.castore, 1) := by decide +kernel
theorem dX1_put_23 : decode cX1_put 23 = .ok (.aload_n 0, 1) := by decide +kernel
theorem dX1_put_24 : decode cX1_put 24 = .ok (.dup, 1) := by decide +kernel
theorem dX1_put_25 : decode cX1_put 25 = .ok (.getfield 21, 3) := by decide +kernel
theorem dX1_put_28 : decode cX1_put 28 = .ok (.iconst 1, 1) := by decide +kernel
theorem dX1_put_29 : decode cX1_put 29 = .ok (.iadd, 1) := by decide +kernel
theorem dX1_put_30 : decode cX1_put 30 = .ok (.putfield 21, 3) := by decide +kernel
theorem dX1_put_33 : decode cX1_put 33 = .ok (.return_, 1) := by decide +kernel
set_option maxRecDepth 20000 in
theorem ggX1_putWord_J0_length_8abf5 : GoodIn wsX1_putWord wsJ0_length_8abf5 := goodIn_r _ [5, 6, 7, 8, 9, 4, 10, 11, 12] rfl (by decide +kernel)
set_option maxRecDepth 20000 in
theorem gX1_putWord_J0_length_8abf5 : GoodIn wsX1_putWord (wsV RX1 25 RJ0 yJ0_length_8abf5 wsJ0_length_8abf5) := goodIn_app (goodIn_of _ (by decide +kernel)) ggX1_putWord_J0_length_8abf5
set_option maxRecDepth 20000 in
theorem ggX1_putWord_J0_charAt_5068e : GoodIn wsX1_putWord wsJ0_charAt_5068e := goodIn_r _ [16, 6, 17, 18, 19, 4, 20, 11, 12, 21, 22, 23, 24, 25, 26, 27, 28, 29, 30, 31, 32, 33, 34, 35, 36, 37, 38, 39, 40, 41, 42, 43, 44, 45, 46, 47, 48, 49] rfl (by decide +kernel)
set_option maxRecDepth 20000 in
theorem gX1_putWord_J0_charAt_5068e : GoodIn wsX1_putWord (wsV RX1 31 RJ0 yJ0_charAt_5068e wsJ0_charAt_5068e) := goodIn_app (goodIn_of _ (by decide +kernel)) ggX1_putWord_J0_charAt_5068e
set_option maxRecDepth 20000 in
theorem ggX1_putWord_X1_put : GoodIn wsX1_putWord wsX1_put := goodIn_r _ [54, 55, 56, 57, 58] rfl (by decide +kernel)
set_option maxRecDepth 20000 in
theorem gX1_putWord_X1_put : GoodIn wsX1_putWord (wsV RX1 35 RX1 yX1_put wsX1_put) := goodIn_app (goodIn_of _ (by decide +kernel)) ggX1_putWord_X1_put
theorem dX1_putWord_0 : decode cX1_putWord 0 = .ok (.iconst 0, 1) := by decide +kernel
theorem dX1_putWord_1 : decode cX1_putWord 1 = .ok (.istore_n 2, 1) := by decide +kernel
theorem dX1_putWord_2 : decode cX1_putWord 2 = .ok (.iload_n 2, 1) := by decide +kernel
theorem dX1_putWord_3 : decode cX1_putWord 3 = .ok (.aload_n 1, 1) := by decide +kernel
theorem dX1_putWord_4 : decode cX1_putWord 4 = .ok (.invokevirtual 25, 3) := by decide +kernel
theorem dX1_putWord_7 : decode cX1_putWord 7 = .ok (.if_icmp .ge 18, 3) := by decide +kernel
theorem dX1_putWord_10 : decode cX1_putWord 10 = .ok (.aload_n 0, 1) := by decide +kernel
theorem dX1_putWord_11 : decode cX1_putWord 11 = .ok (.aload_n 1, 1) := by decide +kernel
theorem dX1_putWord_12 : decode cX1_putWord 12 = .ok (.iload_n 2, 1) := by decide +kernel
theorem dX1_putWord_13 : decode cX1_putWord 13 = .ok (.invokevirtual 31, 3) := by decide +kernel
theorem dX1_putWord_16 : decode cX1_putWord 16 = .ok (.invokevirtual 35, 3) := by decide +kernel
theorem dX1_putWord_19 : decode cX1_putWord 19 = .ok (.iinc 2 1, 3) := by decide +kernel
theorem dX1_putWord_22 : decode cX1_putWord 22 = .ok (.goto (-20), 3) := by decide +kernel
theorem dX1_putWord_25 : decode cX1_putWord 25 = .ok (.return_, 1) := by decide +kernel
set_option maxRecDepth 20000 in
theorem ggX1_putRow_X1_size : GoodIn wsX1_putRow wsX1_size := goodIn_r _ [5, 6, 16, 17] rfl (by decide +kernel)
set_option maxRecDepth 20000 in
theorem gX1_putRow_X1_size : GoodIn wsX1_putRow (wsV RX1 39 RX1 yX1_size wsX1_size) := goodIn_app (goodIn_of _ (by decide +kernel)) ggX1_putRow_X1_size
set_option maxRecDepth 20000 in
theorem ggX1_putRow_X1_at : GoodIn wsX1_putRow wsX1_at := goodIn_r _ [10, 6, 11, 16, 17] rfl (by decide +kernel)
set_option maxRecDepth 20000 in
theorem gX1_putRow_X1_at : GoodIn wsX1_putRow (wsV RX1 42 RX1 yX1_at wsX1_at) := goodIn_app (goodIn_of _ (by decide +kernel)) ggX1_putRow_X1_at
set_option maxRecDepth 20000 in
theorem ggX1_putRow_X1_put : GoodIn wsX1_putRow wsX1_put := goodIn_r _ [15, 6, 11, 16, 17] rfl (by decide +kernel)
set_option maxRecDepth 20000 in
theorem gX1_putRow_X1_put : GoodIn wsX1_putRow (wsV RX1 35 RX1 yX1_put wsX1_put) := goodIn_app (goodIn_of _ (by decide +kernel)) ggX1_putRow_X1_put
theorem dX1_putRow_0 : decode cX1_putRow 0 = .ok (.iconst 0, 1) := by decide +kernel
theorem dX1_putRow_1 : decode cX1_putRow 1 = .ok (.istore_n 2, 1) := by decide +kernel
theorem dX1_putRow_2 : decode cX1_putRow 2 = .ok (.iload_n 2, 1) := by decide +kernel
theorem dX1_putRow_3 : decode cX1_putRow 3 = .ok (.aload_n 1, 1) := by decide +kernel
theorem dX1_putRow_4 : decode cX1_putRow 4 = .ok (.invokevirtual 39, 3) := by decide +kernel
theorem dX1_putRow_7 : decode cX1_putRow 7 = .ok (.if_icmp .ge 18, 3) := by decide +kernel
theorem dX1_putRow_10 : decode cX1_putRow 10 = .ok (.aload_n 0, 1) := by decide +kernel
theorem dX1_putRow_11 : decode cX1_putRow 11 = .ok (.aload_n 1, 1) := by decide +kernel
theorem dX1_putRow_12 : decode cX1_putRow 12 = .ok (.iload_n 2, 1) := by decide +kernel
theorem dX1_putRow_13 : decode cX1_putRow 13 = .ok (.invokevirtual 42, 3) := by decide +kernel
theorem dX1_putRow_16 : decode cX1_putRow 16 = .ok (.invokevirtual 35, 3) := by decide +kernel
theorem dX1_putRow_19 : decode cX1_putRow 19 = .ok (.iinc 2 1, 3) := by decide +kernel
theorem dX1_putRow_22 : decode cX1_putRow 22 = .ok (.goto (-20), 3) := by decide +kernel
theorem dX1_putRow_25 : decode cX1_putRow 25 = .ok (.return_, 1) := by decide +kernel
theorem dX1_at_0 : decode cX1_at 0 = .ok (.iload_n 1, 1) := by decide +kernel
theorem dX1_at_1 : decode cX1_at 1 = .ok (.ifCond .lt 20, 3) := by decide +kernel
theorem dX1_at_4 : decode cX1_at 4 = .ok (.iload_n 1, 1) := by decide +kernel
theorem dX1_at_5 : decode cX1_at 5 = .ok (.aload_n 0, 1) := by decide +kernel
theorem dX1_at_6 : decode cX1_at 6 = .ok (.getfield 21, 3) := by decide +kernel
theorem dX1_at_9 : decode cX1_at 9 = .ok (.if_icmp .ge 12, 3) := by decide +kernel
theorem dX1_at_12 : decode cX1_at 12 = .ok (.aload_n 0, 1) := by decide +kernel
theorem dX1_at_13 : decode cX1_at 13 = .ok (.getfield 15, 3) := by decide +kernel
theorem dX1_at_16 : decode cX1_at 16 = .ok (.iload_n 1, 1) := by decide +kernel
theorem dX1_at_17 : decode cX1_at 17 = .ok (.caload, 1) := by decide +kernel
theorem dX1_at_18 : decode cX1_at 18 = .ok (.goto 5, 3) := by decide +kernel
theorem dX1_at_21 : decode cX1_at 21 = .ok (.bipush (-3), 2) := by decide +kernel
theorem dX1_at_23 : decode cX1_at 23 = .ok (.ireturn, 1) := by decide +kernel
set_option maxRecDepth 20000 in
theorem ggX1_isSameAs_X1_size : GoodIn wsX1_isSameAs wsX1_size := goodIn_r _ [6, 1, 12, 13] rfl (by decide +kernel)
set_option maxRecDepth 20000 in
theorem gX1_isSameAs_X1_size : GoodIn wsX1_isSameAs (wsV RX1 39 RX1 yX1_size wsX1_size) := goodIn_app (goodIn_of _ (by decide +kernel)) ggX1_isSameAs_X1_size
set_option maxRecDepth 20000 in
theorem ggX1_isSameAs_X1_at : GoodIn wsX1_isSameAs wsX1_at := goodIn_r _ [10, 1, 11, 12, 13] rfl (by decide +kernel)
set_option maxRecDepth 20000 in
theorem gX1_isSameAs_X1_at : GoodIn wsX1_isSameAs (wsV RX1 42 RX1 yX1_at wsX1_at) := goodIn_app (goodIn_of _ (by decide +kernel)) ggX1_isSameAs_X1_at
theorem dX1_isSameAs_0 : decode cX1_isSameAs 0 = .ok (.aload_n 0, 1) := by decide +kernel
theorem dX1_isSameAs_1 : decode cX1_isSameAs 1 = .ok (.getfield 21, 3) := by decide +kernel
theorem dX1_isSameAs_4 : decode cX1_isSameAs 4 = .ok (.aload_n 1, 1) := by decide +kernel
theorem dX1_isSameAs_5 : decode cX1_isSameAs 5 = .ok (.invokevirtual 39, 3) := by decide +kernel
theorem dX1_isSameAs_8 : decode cX1_isSameAs 8 = .ok (.if_icmp .ne 7, 3) := by decide +kernel
theorem dX1_isSameAs_11 : decode cX1_isSameAs 11 = .ok (.iconst 1, 1) := by decide +kernel
theorem dX1_isSameAs_12 : decode cX1_isSameAs 12 = .ok (.goto 4, 3) := by decide +kernel
theorem dX1_isSameAs_15 : decode cX1_isSameAs 15 = .ok (.iconst 0, 1) := by decide +kernel
theorem dX1_isSameAs_16 : decode cX1_isSameAs 16 = .ok (.istore_n 2, 1) := by decide +kernel
theorem dX1_isSameAs_17 : decode cX1_isSameAs 17 = .ok (.iconst 0, 1) := by decide +kernel
theorem dX1_isSameAs_18 : decode cX1_isSameAs 18 = .ok (.istore_n 3, 1) := by decide +kernel
theorem dX1_isSameAs_19 : decode cX1_isSameAs 19 = .ok (.iload_n 3, 1) := by decide +kernel
theorem dX1_isSameAs_20 : decode cX1_isSameAs 20 = .ok (.aload_n 0, 1) := by decide +kernel
theorem dX1_isSameAs_21 : decode cX1_isSameAs 21 = .ok (.getfield 21, 3) := by decide +kernel
theorem dX1_isSameAs_24 : decode cX1_isSameAs 24 = .ok (.if_icmp .ge 32, 3) := by decide +kernel
theorem dX1_isSameAs_27 : decode cX1_isSameAs 27 = .ok (.iload_n 2, 1) := by decide +kernel
theorem dX1_isSameAs_28 : decode cX1_isSameAs 28 = .ok (.ifCond .eq 28, 3) := by decide +kernel
theorem dX1_isSameAs_31 : decode cX1_isSameAs 31 = .ok (.aload_n 0, 1) := by decide +kernel
theorem dX1_isSameAs_32 : decode cX1_isSameAs 32 = .ok (.iload_n 3, 1) := by decide +kernel
theorem dX1_isSameAs_33 : decode cX1_isSameAs 33 = .ok (.invokevirtual 42, 3) := by decide +kernel
theorem dX1_isSameAs_36 : decode cX1_isSameAs 36 = .ok (.aload_n 1, 1) := by decide +kernel
theorem dX1_isSameAs_37 : decode cX1_isSameAs 37 = .ok (.iload_n 3, 1) := by decide +kernel
theorem dX1_isSameAs_38 : decode cX1_isSameAs 38 = .ok (.invokevirtual 42, 3) := by decide +kernel
theorem dX1_isSameAs_41 : decode cX1_isSameAs 41 = .ok (.if_icmp .ne 7, 3) := by decide +kernel
theorem dX1_isSameAs_44 : decode cX1_isSameAs 44 = .ok (.iconst 1, 1) := by decide +kernel
theorem dX1_isSameAs_45 : decode cX1_isSameAs 45 = .ok (.goto 4, 3) := by decide +kernel
theorem dX1_isSameAs_48 : decode cX1_isSameAs 48 = .ok (.iconst 0, 1) := by decide +kernel
theorem dX1_isSameAs_49 : decode cX1_isSameAs 49 = .ok (.istore_n 2, 1) := by decide +kernel
theorem dX1_isSameAs_50 : decode cX1_isSameAs 50 = .ok (.iinc 3 1, 3) := by decide +kernel
theorem dX1_isSameAs_53 : decode cX1_isSameAs 53 = .ok (.goto (-34), 3) := by decide +kernel
theorem dX1_isSameAs_56 : decode cX1_isSameAs 56 = .ok (.iload_n 2, 1) := by decide +kernel
theorem dX1_isSameAs_57 : decode cX1_isSameAs 57 = .ok (.ireturn, 1) := by decide +kernel
theorem dX3_size_0 : decode cX3_size 0 = .ok (.aload_n 0, 1) := by decide +kernel
theorem dX3_size_1 : decode cX3_size 1 = .ok (.getfield 21, 3) := by decide +kernel
theorem dX3_size_4 : decode cX3_size 4 = .ok (.ireturn, 1) := by decide +kernel
theorem dX3_clear_0 : decode cX3_clear 0 = .ok (.aload_n 0, 1) := by decide +kernel
theorem dX3_clear_1 : decode cX3_clear 1 = .ok (.iconst 0, 1) := by decide +kernel
theorem dX3_clear_2 : decode cX3_clear 2 = .ok (.putfield 21, 3) := by decide +kernel
theorem dX3_clear_5 : decode cX3_clear 5 = .ok (.return_, 1) := by decide +kernel
theorem dX3_push_0 : decode cX3_push 0 = .ok (.aload_n 0, 1) := by decide +kernel
theorem dX3_push_1 : decode cX3_push 1 = .ok (.getfield 21, 3) := by decide +kernel
theorem dX3_push_4 : decode cX3_push 4 = .ok (.aload_n 0, 1) := by decide +kernel
theorem dX3_push_5 : decode cX3_push 5 = .ok (.getfield 15, 3) := by decide +kernel
theorem dX3_push_8 : decode cX3_push 8 = .ok (.arraylength, 1) := by decide +kernel
theorem dX3_push_9 : decode cX3_push 9 = .ok (.if_icmp .ge 23, 3) := by decide +kernel
theorem dX3_push_12 : decode cX3_push 12 = .ok (.aload_n 0, 1) := by decide +kernel
theorem dX3_push_13 : decode cX3_push 13 = .ok (.getfield 15, 3) := by decide +kernel
theorem dX3_push_16 : decode cX3_push 16 = .ok (.aload_n 0, 1) := by decide +kernel
theorem dX3_push_17 : decode cX3_push 17 = .ok (.getfield 21, 3) := by decide +kernel
theorem dX3_push_20 : decode cX3_push 20 = .ok (.iload_n 1, 1) := by decide +kernel
theorem dX3_push_21 : decode cX3_push 21 = .ok (.iastore, 1) := by decide +kernel
theorem dX3_push_22 : decode cX3_push 22 = .ok (.aload_n 0, 1) := by decide +kernel
theorem dX3_push_23 : decode cX3_push 23 = .ok (.dup, 1) := by decide +kernel
theorem dX3_push_24 : decode cX3_push 24 = .ok (.getfield 21, 3) := by decide +kernel
theorem dX3_push_27 : decode cX3_push 27 = .ok (.iconst 1, 1) := by decide +kernel
theorem dX3_push_28 : decode cX3_push 28 = .ok (.iadd, 1) := by decide +kernel
theorem dX3_push_29 : decode cX3_push 29 = .ok (.putfield 21, 3) := by decide +kernel
theorem dX3_push_32 : decode cX3_push 32 = .ok (.return_, 1) := by decide +kernel
theorem dX3_top_0 : decode cX3_top 0 = .ok (.aload_n 0, 1) := by decide +kernel
theorem dX3_top_1 : decode cX3_top 1 = .ok (.getfield 21, 3) := by decide +kernel
theorem dX3_top_4 : decode cX3_top 4 = .ok (.ifCond .le 17, 3) := by decide +kernel
theorem dX3_top_7 : decode cX3_top 7 = .ok (.aload_n 0, 1) := by decide +kernel
theorem dX3_top_8 : decode cX3_top 8 = .ok (.getfield 15, 3) := by decide +kernel
theorem dX3_top_11 : decode cX3_top 11 = .ok (.aload_n 0, 1) := by decide +kernel
theorem dX3_top_12 : decode cX3_top 12 = .ok (.getfield 21, 3) := by decide +kernel
theorem dX3_top_15 : decode cX3_top 15 = .ok (.iconst 1, 1) := by decide +kernel
theorem dX3_top_16 : decode cX3_top 16 = .ok (.isub, 1) := by decide +kernel
theorem dX3_top_17 : decode cX3_top 17 = .ok (.iaload, 1) := by decide +kernel
theorem dX3_top_18 : decode cX3_top 18 = .ok (.goto 4, 3) := by decide +kernel
theorem dX3_top_21 : decode cX3_top 21 = .ok (.iconst (-1), 1) := by decide +kernel
theorem dX3_top_22 : decode cX3_top 22 = .ok (.ireturn, 1) := by decide +kernel
theorem dX3_pop_0 : decode cX3_pop 0 = .ok (.aload_n 0, 1) := by decide +kernel
theorem dX3_pop_1 : decode cX3_pop 1 = .ok (.getfield 21, 3) := by decide +kernel
theorem dX3_pop_4 : decode cX3_pop 4 = .ok (.ifCond .ne 5, 3) := by decide +kernel
theorem dX3_pop_7 : decode cX3_pop 7 = .ok (.iconst (-1), 1) := by decide +kernel
theorem dX3_pop_8 : decode cX3_pop 8 = .ok (.ireturn, 1) := by decide +kernel
theorem dX3_pop_9 : decode cX3_pop 9 = .ok (.aload_n 0, 1) := by decide +kernel
theorem dX3_pop_10 : decode cX3_pop 10 = .ok (.dup, 1) := by decide +kernel
theorem dX3_pop_11 : decode cX3_pop 11 = .ok (.getfield 21, 3) := by decide +kernel
theorem dX3_pop_14 : decode cX3_pop 14 = .ok (.iconst 1, 1) := by decide +kernel
theorem dX3_pop_15 : decode cX3_pop 15 = .ok (.isub, 1) := by decide +kernel
theorem dX3_pop_16 : decode cX3_pop 16 = .ok (.putfield 21, 3) := by decide +kernel
theorem dX3_pop_19 : decode cX3_pop 19 = .ok (.aload_n 0, 1) := by decide +kernel
theorem dX3_pop_20 : decode cX3_pop 20 = .ok (.getfield 15, 3) := by decide +kernel
theorem dX3_pop_23 : decode cX3_pop 23 = .ok (.aload_n 0, 1) := by decide +kernel
theorem dX3_pop_24 : decode cX3_pop 24 = .ok (.getfield 21, 3) := by decide +kernel
theorem dX3_pop_27 : decode cX3_pop 27 = .ok (.iaload, 1) := by decide +kernel
theorem dX3_pop_28 : decode cX3_pop 28 = .ok (.ireturn, 1) := by decide +kernel
def fn_CharRow_size (w_count : Int32) : Int32 := w_count
set_option maxHeartbeats 40000000 in
set_option maxRecDepth 100000 in
theorem ct_CharRow_size (l : Launch) (D : va_G) (cI cJ cC : ClassId) (adK adV : Nat → Nat) (A_w A_w_characters : Nat) (sz : Nat) (w_count : Int32) : Met l yX1_size wsX1_size ({ frames := 0, cells := 0, slots := 0, locals := 0 } : Room) (zP D cI cJ cC adK adV [.ref A_w] sz [(A_w, .inr (1, [.ref A_w_characters, .int w_count]))]) (zQi D cI cJ cC (fn_CharRow_size w_count) [(A_w, .inr (1, [.ref A_w_characters, .int w_count]))] (va_A [(A_w, .inr (1, [.ref A_w_characters, .int w_count]))] sz)) 0 0 (va_A [(A_w, .inr (1, [.ref A_w_characters, .int w_count]))] sz) := by
  obtain ⟨rs, hM⟩ : ∃ rs, fn_CharRow_size w_count = rs := ⟨_, rfl⟩
  rw [hM]
  refine Met.ofW (cc := cX1_size) (maxL := 1) (ret := (some .int)) (by decide) rfl ?_
  intro p e s m args below meth c s₁ B hml hv0
  obtain ⟨hargs, hsz, hP, hK, hD0, hX⟩ := hv0
  have hx := B.exec
  have hb := B.bytes
  have hr := B.returns
  have hts := atoms_spec (ws := wsX1_size) B.pre
  have hown : s.vm.findClass RX1 = some m.cls := findClass_of_methodNamed B.named
  have hlocks := B.notSynchronized
  subst hsz
  have hD := hD0.self (sz := s.heap.size)
  generalize hAe : va_A [(A_w, .inr (1, [.ref A_w_characters, .int w_count]))] s.heap.size = A at hD hX ⊢
  have hA : ∀ q : Nat, s.heap.size ≤ q → A q := fun q h => by rw [← hAe]; exact Or.inr h
  have hS : va_S A s.heap s.heap [] := va_S.rf
  have hl := lv_entry ([.ref A_w]) (n := 1) (Nat.le_of_ble_eq_true rfl)
  rw [hargs, lg_entry_eq, ← hargs]
  generalize (lg_sl ([.ref A_w]) ++ List.replicate (1 - (lg_sl ([.ref A_w])).length) Slot.unset).toArray = ls at hl ⊢
  have hl : lv_has ls 1 [(0, .ref A_w)] := hl
  have hw0 : ∀ w ∈ u_ws RX1 TX1 2, w ∈ wsX1_size := by decide +kernel
  have hw1 := hts (.fieldLink RX1 21 "NotationParser$CharRow" "count" "I") (by decide +kernel)
  refine lv_aload_n hx hb dX1_size_0 rfl (lv_at hl 0 rfl) ?_
  refine va_get (D := D) (ci := 1) (v := .int w_count) (C := RX1) (T := TX1) (N := 2) hx hb hts hw0 hown hK hP 0 rfl rfl 1 (by decide) hw1 (fun _ h9 => h9) rfl dX1_size_1 ?_
  have hM := hM
  subst hM
  exact W.iret (v := w_count) hx hb hr (fun t ht hW => ⟨⟨_, (), rfl, rfl, ⟨by rw [ht]; exact hP, va_K.moved hW.alike hK, hD⟩⟩, hS.F ht⟩) hS.2.2 dX1_size_4
def fn_CharRow_room (w_N : Nat) (w_count : Int32) : Int32 := ((nI w_N) - w_count)
set_option maxHeartbeats 40000000 in
set_option maxRecDepth 100000 in
theorem ct_CharRow_room (l : Launch) (D : va_G) (cI cJ cC : ClassId) (adK adV : Nat → Nat) (A_w A_w_characters : Nat) (sz : Nat) (w_N : Nat) (w_count : Int32) (w_characters : Nat → Int32) : Met l yX1_room wsX1_room ({ frames := 0, cells := 0, slots := 0, locals := 0 } : Room) (zP D cI cJ cC adK adV [.ref A_w] sz [(A_w, .inr (1, [.ref A_w_characters, .int w_count])), (A_w_characters, .inl (cC, w_N, .inl w_characters))]) (zQi D cI cJ cC (fn_CharRow_room w_N w_count) [(A_w, .inr (1, [.ref A_w_characters, .int w_count])), (A_w_characters, .inl (cC, w_N, .inl w_characters))] (va_A [(A_w, .inr (1, [.ref A_w_characters, .int w_count])), (A_w_characters, .inl (cC, w_N, .inl w_characters))] sz)) 0 0 (va_A [(A_w, .inr (1, [.ref A_w_characters, .int w_count])), (A_w_characters, .inl (cC, w_N, .inl w_characters))] sz) := by
  obtain ⟨rs, hM⟩ : ∃ rs, fn_CharRow_room w_N w_count = rs := ⟨_, rfl⟩
  rw [hM]
  refine Met.ofW (cc := cX1_room) (maxL := 1) (ret := (some .int)) (by decide) rfl ?_
  intro p e s m args below meth c s₁ B hml hv0
  obtain ⟨hargs, hsz, hP, hK, hD0, hX⟩ := hv0
  have hx := B.exec
  have hb := B.bytes
  have hr := B.returns
  have hts := atoms_spec (ws := wsX1_room) B.pre
  have hown : s.vm.findClass RX1 = some m.cls := findClass_of_methodNamed B.named
  have hlocks := B.notSynchronized
  subst hsz
  have hD := hD0.self (sz := s.heap.size)
  generalize hAe : va_A [(A_w, .inr (1, [.ref A_w_characters, .int w_count])), (A_w_characters, .inl (cC, w_N, .inl w_characters))] s.heap.size = A at hD hX ⊢
  have hA : ∀ q : Nat, s.heap.size ≤ q → A q := fun q h => by rw [← hAe]; exact Or.inr h
  have hS : va_S A s.heap s.heap [] := va_S.rf
  have hl := lv_entry ([.ref A_w]) (n := 1) (Nat.le_of_ble_eq_true rfl)
  rw [hargs, lg_entry_eq, ← hargs]
  generalize (lg_sl ([.ref A_w]) ++ List.replicate (1 - (lg_sl ([.ref A_w])).length) Slot.unset).toArray = ls at hl ⊢
  have hl : lv_has ls 1 [(0, .ref A_w)] := hl
  have hw0 : ∀ w ∈ u_ws RX1 TX1 2, w ∈ wsX1_room := by decide +kernel
  have hw1 := hts (.fieldLink RX1 15 "NotationParser$CharRow" "characters" "[C") (by decide +kernel)
  have hw2 := hts (.fieldLink RX1 21 "NotationParser$CharRow" "count" "I") (by decide +kernel)
  refine lv_aload_n hx hb dX1_room_0 rfl (lv_at hl 0 rfl) ?_
  refine va_get (D := D) (ci := 1) (v := .ref A_w_characters) (C := RX1) (T := TX1) (N := 2) hx hb hts hw0 hown hK hP 0 rfl rfl 0 (by decide) hw1 (fun _ h9 => h9) rfl dX1_room_1 ?_
  refine va_alen hx hb hK hP 1 2 (v := (nI w_N)) rfl rfl rfl dX1_room_4 ?_
  refine lv_aload_n hx hb dX1_room_5 rfl (lv_at hl 0 rfl) ?_
  refine va_get (D := D) (ci := 1) (v := .int w_count) (C := RX1) (T := TX1) (N := 2) hx hb hts hw0 hown hK hP 0 rfl rfl 1 (by decide) hw2 (fun _ h9 => h9) rfl dX1_room_6 ?_
  refine lv_isub hx hb dX1_room_9 ?_
  have hM := hM
  subst hM
  exact W.iret (v := ((nI w_N) - w_count)) hx hb hr (fun t ht hW => ⟨⟨_, (), rfl, rfl, ⟨by rw [ht]; exact hP, va_K.moved hW.alike hK, hD⟩⟩, hS.F ht⟩) hS.2.2 dX1_room_10
def fn_CharRow_clear (w_count : Int32) : Int32 := 0
set_option maxHeartbeats 40000000 in
set_option maxRecDepth 100000 in
theorem ct_CharRow_clear (l : Launch) (D : va_G) (cI cJ cC : ClassId) (adK adV : Nat → Nat) (A_w A_w_characters : Nat) (sz : Nat) (w_count : Int32) : Met l yX1_clear wsX1_clear ({ frames := 0, cells := 0, slots := 0, locals := 0 } : Room) (zP D cI cJ cC adK adV [.ref A_w] sz [(A_w, .inr (1, [.ref A_w_characters, .int w_count]))]) (zQv D cI cJ cC [(A_w, .inr (1, [.ref A_w_characters, .int (fn_CharRow_clear w_count)]))] (va_A [(A_w, .inr (1, [.ref A_w_characters, .int w_count]))] sz)) 0 0 (va_A [(A_w, .inr (1, [.ref A_w_characters, .int w_count]))] sz) := by
  obtain ⟨rs, hM⟩ : ∃ rs, fn_CharRow_clear w_count = rs := ⟨_, rfl⟩
  rw [hM]
  refine Met.ofW (cc := cX1_clear) (maxL := 1) (ret := none) (by decide) rfl ?_
  intro p e s m args below meth c s₁ B hml hv0
  obtain ⟨hargs, hsz, hP, hK, hD0, hX⟩ := hv0
  have hx := B.exec
  have hb := B.bytes
  have hr := B.returns
  have hts := atoms_spec (ws := wsX1_clear) B.pre
  have hown : s.vm.findClass RX1 = some m.cls := findClass_of_methodNamed B.named
  have hlocks := B.notSynchronized
  subst hsz
  have hD := hD0.self (sz := s.heap.size)
  generalize hAe : va_A [(A_w, .inr (1, [.ref A_w_characters, .int w_count]))] s.heap.size = A at hD hX ⊢
  have hA : ∀ q : Nat, s.heap.size ≤ q → A q := fun q h => by rw [← hAe]; exact Or.inr h
  have hS : va_S A s.heap s.heap [] := va_S.rf
  have hl := lv_entry ([.ref A_w]) (n := 1) (Nat.le_of_ble_eq_true rfl)
  rw [hargs, lg_entry_eq, ← hargs]
  generalize (lg_sl ([.ref A_w]) ++ List.replicate (1 - (lg_sl ([.ref A_w])).length) Slot.unset).toArray = ls at hl ⊢
  have hl : lv_has ls 1 [(0, .ref A_w)] := hl
  have hw0 : ∀ w ∈ u_ws RX1 TX1 2, w ∈ wsX1_clear := by decide +kernel
  have hw1 := hts (.fieldLink RX1 21 "NotationParser$CharRow" "count" "I") (by decide +kernel)
  refine lv_aload_n hx hb dX1_clear_0 rfl (lv_at hl 0 rfl) ?_
  refine lv_iconst (v := 0) hx hb dX1_clear_1 (by decide) ?_
  refine va_put (D := D) (ci := 1) (v := .int 0) (ty := .int) (C := RX1) (T := TX1) (N := 2) hx hb hts hw0 tyX1 tyX1_ok nmX1 hown hK hP hD hS 0 rfl rfl 1 (by decide) hw1 (fun _ h9 => h9) rfl (by decide +kernel) rfl rfl (Nat.le_of_ble_eq_true rfl) dX1_clear_2 (fun H1 locs hP hD hS => ?_)
  have hP : va_P D vwCl [(A_w, .inr (1, [.ref A_w_characters, .int 0]))] H1 := hP
  have hD : va_D A [(A_w, .inr (1, [.ref A_w_characters, .int 0]))] := hD
  have hM := hM
  subst hM
  exact W.vret hx hb hr (fun t ht hW => ⟨⟨(), rfl, trivial, ⟨by rw [ht]; exact hP, va_K.moved hW.alike hK, hD⟩⟩, hS.F ht⟩) hS.2.2 dX1_clear_5
def fn_CharRow_put (w_N : Nat) (w_count : Int32) (w_characters : Nat → Int32) (x1 : Int32) : Option (Int32 × (Nat → Int32)) := (if (nI w_N) ≤ w_count then some (w_count, w_characters) else (if (w_count < 0 ∨ w_N ≤ w_count.toNatClampNeg) then none else some ((w_count + 1), (upd w_characters w_count.toNatClampNeg (vp_nar .char ((x1).toUInt32 % 65536).toInt32)))))
set_option maxHeartbeats 40000000 in
set_option maxRecDepth 100000 in
theorem ct_CharRow_put (l : Launch) (D : va_G) (cI cJ cC : ClassId) (adK adV : Nat → Nat) (A_w A_w_characters : Nat) (sz : Nat) (w_N : Nat) (w_count : Int32) (w_characters : Nat → Int32) (x1 : Int32) {rs : Int32 × (Nat → Int32)} (hM : fn_CharRow_put w_N w_count w_characters x1 = some rs) : Met l yX1_put wsX1_put ({ frames := 0, cells := 0, slots := 0, locals := 0 } : Room) (zP D cI cJ cC adK adV [.ref A_w, .int x1] sz [(A_w, .inr (1, [.ref A_w_characters, .int w_count])), (A_w_characters, .inl (cC, w_N, .inl w_characters))]) (zQv D cI cJ cC [(A_w, .inr (1, [.ref A_w_characters, .int rs.1])), (A_w_characters, .inl (cC, w_N, .inl rs.2))] (va_A [(A_w, .inr (1, [.ref A_w_characters, .int w_count])), (A_w_characters, .inl (cC, w_N, .inl w_characters))] sz)) 0 0 (va_A [(A_w, .inr (1, [.ref A_w_characters, .int w_count])), (A_w_characters, .inl (cC, w_N, .inl w_characters))] sz) := by
  refine Met.ofW (cc := cX1_put) (maxL := 2) (ret := none) (by decide) rfl ?_
  intro p e s m args below meth c s₁ B hml hv0
  obtain ⟨hargs, hsz, hP, hK, hD0, hX⟩ := hv0
  have hx := B.exec
  have hb := B.bytes
  have hr := B.returns
  have hts := atoms_spec (ws := wsX1_put) B.pre
  have hown : s.vm.findClass RX1 = some m.cls := findClass_of_methodNamed B.named
  have hlocks := B.notSynchronized
  subst hsz
  have hD := hD0.self (sz := s.heap.size)
  generalize hAe : va_A [(A_w, .inr (1, [.ref A_w_characters, .int w_count])), (A_w_characters, .inl (cC, w_N, .inl w_characters))] s.heap.size = A at hD hX ⊢
  have hA : ∀ q : Nat, s.heap.size ≤ q → A q := fun q h => by rw [← hAe]; exact Or.inr h
  have hS : va_S A s.heap s.heap [] := va_S.rf
  have hl := lv_entry ([.ref A_w, .int x1]) (n := 2) (Nat.le_of_ble_eq_true rfl)
  rw [hargs, lg_entry_eq, ← hargs]
  generalize (lg_sl ([.ref A_w, .int x1]) ++ List.replicate (2 - (lg_sl ([.ref A_w, .int x1])).length) Slot.unset).toArray = ls at hl ⊢
  have hl : lv_has ls 2 [(0, .ref A_w), (1, .int x1)] := hl
  have hw0 : ∀ w ∈ u_ws RX1 TX1 2, w ∈ wsX1_put := by decide +kernel
  have hw1 := hts (.fieldLink RX1 21 "NotationParser$CharRow" "count" "I") (by decide +kernel)
  have hw2 := hts (.fieldLink RX1 15 "NotationParser$CharRow" "characters" "[C") (by decide +kernel)
  refine lv_aload_n hx hb dX1_put_0 rfl (lv_at hl 0 rfl) ?_
  refine va_get (D := D) (ci := 1) (v := .int w_count) (C := RX1) (T := TX1) (N := 2) hx hb hts hw0 hown hK hP 0 rfl rfl 1 (by decide) hw1 (fun _ h9 => h9) rfl dX1_put_1 ?_
  refine lv_aload_n hx hb dX1_put_4 rfl (lv_at hl 0 rfl) ?_
  refine va_get (D := D) (ci := 1) (v := .ref A_w_characters) (C := RX1) (T := TX1) (N := 2) hx hb hts hw0 hown hK hP 0 rfl rfl 0 (by decide) hw2 (fun _ h9 => h9) rfl dX1_put_5 ?_
  refine va_alen hx hb hK hP 1 2 (v := (nI w_N)) rfl rfl rfl dX1_put_8 ?_
  refine lv_icmp_ge (tgt := 33) hx hb dX1_put_9 (by decide) (fun c1 => ?_) (fun c1 => ?_)
  · have hM := z_t c1 hM
    have hM := Option.some.inj hM
    subst hM
    exact W.vret hx hb hr (fun t ht hW => ⟨⟨(), rfl, trivial, ⟨by rw [ht]; exact hP, va_K.moved hW.alike hK, hD⟩⟩, hS.F ht⟩) hS.2.2 dX1_put_33
  · have hM := z_f c1 hM
    refine lv_aload_n hx hb dX1_put_12 rfl (lv_at hl 0 rfl) ?_
    refine va_get (D := D) (ci := 1) (v := .ref A_w_characters) (C := RX1) (T := TX1) (N := 2) hx hb hts hw0 hown hK hP 0 rfl rfl 0 (by decide) hw2 (fun _ h9 => h9) rfl dX1_put_13 ?_
    refine lv_aload_n hx hb dX1_put_16 rfl (lv_at hl 0 rfl) ?_
    refine va_get (D := D) (ci := 1) (v := .int w_count) (C := RX1) (T := TX1) (N := 2) hx hb hts hw0 hown hK hP 0 rfl rfl 1 (by decide) hw1 (fun _ h9 => h9) rfl dX1_put_17 ?_
    refine lv_iload_n hx hb dX1_put_20 rfl (lv_at hl 1 rfl) ?_
    refine lv_i2c hx hb dX1_put_21 rfl ?_
    obtain ⟨g2, hM⟩ := z_g hM
    refine va_cast hx hb hK hP hD hS 1 2 rfl rfl g2 dX1_put_22 (fun H3 locs hP hD hS => ?_)
    have hP : va_P D vwCl [(A_w, .inr (1, [.ref A_w_characters, .int w_count])), (A_w_characters, .inl (cC, w_N, .inl (upd w_characters w_count.toNatClampNeg (vp_nar .char ((x1).toUInt32 % 65536).toInt32))))] H3 := hP
    have hD : va_D A [(A_w, .inr (1, [.ref A_w_characters, .int w_count])), (A_w_characters, .inl (cC, w_N, .inl (upd w_characters w_count.toNatClampNeg (vp_nar .char ((x1).toUInt32 % 65536).toInt32))))] := hD
    refine lv_aload_n hx hb dX1_put_23 rfl (lv_at hl 0 rfl) ?_
    refine lv_dup hx hb dX1_put_24 rfl ?_
    refine va_get (D := D) (ci := 1) (v := .int w_count) (C := RX1) (T := TX1) (N := 2) hx hb hts hw0 hown hK hP 0 rfl rfl 1 (by decide) hw1 (fun _ h9 => h9) rfl dX1_put_25 ?_
    refine lv_iconst (v := 1) hx hb dX1_put_28 (by decide) ?_
    refine lv_iadd hx hb dX1_put_29 ?_
    refine va_put (D := D) (ci := 1) (v := .int (w_count + 1)) (ty := .int) (C := RX1) (T := TX1) (N := 2) hx hb hts hw0 tyX1 tyX1_ok nmX1 hown hK hP hD hS 0 rfl rfl 1 (by decide) hw1 (fun _ h9 => h9) rfl (by decide +kernel) rfl rfl (Nat.le_of_ble_eq_true rfl) dX1_put_30 (fun H4 locs hP hD hS => ?_)
    have hP : va_P D vwCl [(A_w, .inr (1, [.ref A_w_characters, .int (w_count + 1)])), (A_w_characters, .inl (cC, w_N, .inl (upd w_characters w_count.toNatClampNeg (vp_nar .char ((x1).toUInt32 % 65536).toInt32))))] H4 := hP
    have hD : va_D A [(A_w, .inr (1, [.ref A_w_characters, .int (w_count + 1)])), (A_w_characters, .inl (cC, w_N, .inl (upd w_characters w_count.toNatClampNeg (vp_nar .char ((x1).toUInt32 % 65536).toInt32))))] := hD
    have hM := Option.some.inj hM
    subst hM
    exact W.vret hx hb hr (fun t ht hW => ⟨⟨(), rfl, trivial, ⟨by rw [ht]; exact hP, va_K.moved hW.alike hK, hD⟩⟩, hS.F ht⟩) hS.2.2 dX1_put_33
def fn_CharRow_at (w_N : Nat) (w_count : Int32) (w_characters : Nat → Int32) (x1 : Int32) : Option (Int32) := (if x1 < 0 then some (-3) else (if w_count ≤ x1 then some (-3) else (if (x1 < 0 ∨ w_N ≤ x1.toNatClampNeg) then none else some (w_characters x1.toNatClampNeg))))
set_option maxHeartbeats 40000000 in
set_option maxRecDepth 100000 in
theorem ct_CharRow_at (l : Launch) (D : va_G) (cI cJ cC : ClassId) (adK adV : Nat → Nat) (A_w A_w_characters : Nat) (sz : Nat) (w_N : Nat) (w_count : Int32) (w_characters : Nat → Int32) (x1 : Int32) {rs : Int32} (hM : fn_CharRow_at w_N w_count w_characters x1 = some rs) : Met l yX1_at wsX1_at ({ frames := 0, cells := 0, slots := 0, locals := 0 } : Room) (zP D cI cJ cC adK adV [.ref A_w, .int x1] sz [(A_w, .inr (1, [.ref A_w_characters, .int w_count])), (A_w_characters, .inl (cC, w_N, .inl w_characters))]) (zQi D cI cJ cC rs [(A_w, .inr (1, [.ref A_w_characters, .int w_count])), (A_w_characters, .inl (cC, w_N, .inl w_characters))] (va_A [(A_w, .inr (1, [.ref A_w_characters, .int w_count])), (A_w_characters, .inl (cC, w_N, .inl w_characters))] sz)) 0 0 (va_A [(A_w, .inr (1, [.ref A_w_characters, .int w_count])), (A_w_characters, .inl (cC, w_N, .inl w_characters))] sz) := by
  refine Met.ofW (cc := cX1_at) (maxL := 2) (ret := (some .int)) (by decide) rfl ?_
  intro p e s m args below meth c s₁ B hml hv0
  obtain ⟨hargs, hsz, hP, hK, hD0, hX⟩ := hv0
  have hx := B.exec
  have hb := B.bytes
  have hr := B.returns
  have hts := atoms_spec (ws := wsX1_at) B.pre
  have hown : s.vm.findClass RX1 = some m.cls := findClass_of_methodNamed B.named
  have hlocks := B.notSynchronized
  subst hsz
  have hD := hD0.self (sz := s.heap.size)
  generalize hAe : va_A [(A_w, .inr (1, [.ref A_w_characters, .int w_count])), (A_w_characters, .inl (cC, w_N, .inl w_characters))] s.heap.size = A at hD hX ⊢
  have hA : ∀ q : Nat, s.heap.size ≤ q → A q := fun q h => by rw [← hAe]; exact Or.inr h
  have hS : va_S A s.heap s.heap [] := va_S.rf
  have hl := lv_entry ([.ref A_w, .int x1]) (n := 2) (Nat.le_of_ble_eq_true rfl)
  rw [hargs, lg_entry_eq, ← hargs]
  generalize (lg_sl ([.ref A_w, .int x1]) ++ List.replicate (2 - (lg_sl ([.ref A_w, .int x1])).length) Slot.unset).toArray = ls at hl ⊢
  have hl : lv_has ls 2 [(0, .ref A_w), (1, .int x1)] := hl
  have hw0 : ∀ w ∈ u_ws RX1 TX1 2, w ∈ wsX1_at := by decide +kernel
  have hw1 := hts (.fieldLink RX1 21 "NotationParser$CharRow" "count" "I") (by decide +kernel)
  have hw2 := hts (.fieldLink RX1 15 "NotationParser$CharRow" "characters" "[C") (by decide +kernel)
  refine lv_iload_n hx hb dX1_at_0 rfl (lv_at hl 1 rfl) ?_
  refine lv_if_lt (tgt := 21) hx hb dX1_at_1 (by decide) (fun c1 => ?_) (fun c1 => ?_)
  · have hM := z_t c1 hM
    refine lv_bipush (v := (-3)) hx hb dX1_at_21 (by decide) ?_
    have hM := Option.some.inj hM
    subst hM
    exact W.iret (v := (-3)) hx hb hr (fun t ht hW => ⟨⟨_, (), rfl, rfl, ⟨by rw [ht]; exact hP, va_K.moved hW.alike hK, hD⟩⟩, hS.F ht⟩) hS.2.2 dX1_at_23
  · have hM := z_f c1 hM
    refine lv_iload_n hx hb dX1_at_4 rfl (lv_at hl 1 rfl) ?_
    refine lv_aload_n hx hb dX1_at_5 rfl (lv_at hl 0 rfl) ?_
    refine va_get (D := D) (ci := 1) (v := .int w_count) (C := RX1) (T := TX1) (N := 2) hx hb hts hw0 hown hK hP 0 rfl rfl 1 (by decide) hw1 (fun _ h9 => h9) rfl dX1_at_6 ?_
    refine lv_icmp_ge (tgt := 21) hx hb dX1_at_9 (by decide) (fun c2 => ?_) (fun c2 => ?_)
    · have hM := z_t c2 hM
      refine lv_bipush (v := (-3)) hx hb dX1_at_21 (by decide) ?_
      have hM := Option.some.inj hM
      subst hM
      exact W.iret (v := (-3)) hx hb hr (fun t ht hW => ⟨⟨_, (), rfl, rfl, ⟨by rw [ht]; exact hP, va_K.moved hW.alike hK, hD⟩⟩, hS.F ht⟩) hS.2.2 dX1_at_23
    · have hM := z_f c2 hM
      refine lv_aload_n hx hb dX1_at_12 rfl (lv_at hl 0 rfl) ?_
      refine va_get (D := D) (ci := 1) (v := .ref A_w_characters) (C := RX1) (T := TX1) (N := 2) hx hb hts hw0 hown hK hP 0 rfl rfl 0 (by decide) hw2 (fun _ h9 => h9) rfl dX1_at_13 ?_
      refine lv_iload_n hx hb dX1_at_16 rfl (lv_at hl 1 rfl) ?_
      obtain ⟨g3, hM⟩ := z_g hM
      refine va_cald hx hb hK hP 1 2 rfl rfl g3 dX1_at_17 ?_
      refine lv_goto (tgt := 23) hx hb dX1_at_18 (by decide) ?_
      have hM := Option.some.inj hM
      subst hM
      exact W.iret (v := (w_characters x1.toNatClampNeg)) hx hb hr (fun t ht hW => ⟨⟨_, (), rfl, rfl, ⟨by rw [ht]; exact hP, va_K.moved hW.alike hK, hD⟩⟩, hS.F ht⟩) hS.2.2 dX1_at_23
def fn_CharRow_putRow_L2 (w_N : Nat) (o_N : Nat) (o_count : Int32) (o_characters : Nat → Int32) : Nat → Int32 → (Nat → Int32) → Int32 → Option (Int32 × (Nat → Int32))
  | 0 => fun _ _ _ => none
  | n + 1 => fun w_count w_characters x2 => (if (fn_CharRow_size o_count) ≤ x2 then some (w_count, w_characters) else ((fn_CharRow_at o_N o_count o_characters x2).bind fun q4 => ((fn_CharRow_put w_N w_count w_characters q4).bind fun q6 => (fn_CharRow_putRow_L2 w_N o_N o_count o_characters n) q6.1 q6.2 (x2 + 1))))
def fn_CharRow_putRow (w_N : Nat) (o_N : Nat) (w_count : Int32) (w_characters : Nat → Int32) (o_count : Int32) (o_characters : Nat → Int32) : Option (Int32 × (Nat → Int32)) := fn_CharRow_putRow_L2 w_N o_N o_count o_characters zFU w_count w_characters 0
set_option maxHeartbeats 40000000 in
set_option maxRecDepth 100000 in
theorem ct_CharRow_putRow (l : Launch) (D : va_G) (cI cJ cC : ClassId) (adK adV : Nat → Nat) (A_w A_w_characters A_o A_o_characters : Nat) (sz : Nat) (w_N : Nat) (o_N : Nat) (w_count : Int32) (w_characters : Nat → Int32) (o_count : Int32) (o_characters : Nat → Int32) {rs : Int32 × (Nat → Int32)} (hM : fn_CharRow_putRow w_N o_N w_count w_characters o_count o_characters = some rs) : Met l yX1_putRow wsX1_putRow ({ frames := 1, cells := 0, slots := 0, locals := 21 } : Room) (zP D cI cJ cC adK adV [.ref A_w, .ref A_o] sz [(A_w, .inr (1, [.ref A_w_characters, .int w_count])), (A_w_characters, .inl (cC, w_N, .inl w_characters)), (A_o, .inr (1, [.ref A_o_characters, .int o_count])), (A_o_characters, .inl (cC, o_N, .inl o_characters))]) (zQv D cI cJ cC [(A_w, .inr (1, [.ref A_w_characters, .int rs.1])), (A_w_characters, .inl (cC, w_N, .inl rs.2)), (A_o, .inr (1, [.ref A_o_characters, .int o_count])), (A_o_characters, .inl (cC, o_N, .inl o_characters))] (va_A [(A_w, .inr (1, [.ref A_w_characters, .int w_count])), (A_w_characters, .inl (cC, w_N, .inl w_characters)), (A_o, .inr (1, [.ref A_o_characters, .int o_count])), (A_o_characters, .inl (cC, o_N, .inl o_characters))] sz)) 0 0 (va_A [(A_w, .inr (1, [.ref A_w_characters, .int w_count])), (A_w_characters, .inl (cC, w_N, .inl w_characters)), (A_o, .inr (1, [.ref A_o_characters, .int o_count])), (A_o_characters, .inl (cC, o_N, .inl o_characters))] sz) := by
  refine Met.ofW (cc := cX1_putRow) (maxL := 3) (ret := none) (by decide) rfl ?_
  intro p e s m args below meth c s₁ B hml hv0
  obtain ⟨hargs, hsz, hP, hK, hD0, hX⟩ := hv0
  have hx := B.exec
  have hb := B.bytes
  have hr := B.returns
  have hts := atoms_spec (ws := wsX1_putRow) B.pre
  have hown : s.vm.findClass RX1 = some m.cls := findClass_of_methodNamed B.named
  have hlocks := B.notSynchronized
  subst hsz
  have hD := hD0.self (sz := s.heap.size)
  generalize hAe : va_A [(A_w, .inr (1, [.ref A_w_characters, .int w_count])), (A_w_characters, .inl (cC, w_N, .inl w_characters)), (A_o, .inr (1, [.ref A_o_characters, .int o_count])), (A_o_characters, .inl (cC, o_N, .inl o_characters))] s.heap.size = A at hD hX ⊢
  have hA : ∀ q : Nat, s.heap.size ≤ q → A q := fun q h => by rw [← hAe]; exact Or.inr h
  have hS : va_S A s.heap s.heap [] := va_S.rf
  have hl := lv_entry ([.ref A_w, .ref A_o]) (n := 3) (Nat.le_of_ble_eq_true rfl)
  rw [hargs, lg_entry_eq, ← hargs]
  generalize (lg_sl ([.ref A_w, .ref A_o]) ++ List.replicate (3 - (lg_sl ([.ref A_w, .ref A_o])).length) Slot.unset).toArray = ls at hl ⊢
  have hl : lv_has ls 3 [(0, .ref A_w), (1, .ref A_o)] := hl
  have L_2_0 : ∀ (n : Nat) (w_count : Int32) (w_characters : Nat → Int32) (x2 : Int32) (H : Heap) (locs : List Loc) (ls : Array Slot), va_P D vwCl [(A_w, .inr (1, [.ref A_w_characters, .int w_count])), (A_w_characters, .inl (cC, w_N, .inl w_characters)), (A_o, .inr (1, [.ref A_o_characters, .int o_count])), (A_o_characters, .inl (cC, o_N, .inl o_characters))] H → va_D A [(A_w, .inr (1, [.ref A_w_characters, .int w_count])), (A_w_characters, .inl (cC, w_N, .inl w_characters)), (A_o, .inr (1, [.ref A_o_characters, .int o_count])), (A_o_characters, .inl (cC, o_N, .inl o_characters))] → va_S A s.heap H locs → lv_has ls 3 [(0, .ref A_w), (1, .ref A_o), (2, .int x2)] → fn_CharRow_putRow_L2 w_N o_N o_count o_characters n w_count w_characters x2 = some rs → W p l e (headSpec wsX1_putRow ({ frames := 1, cells := 0, slots := 0, locals := 21 } : Room)).room s m args below meth c H locs 0 0 (MQ below (zQv D cI cJ cC [(A_w, .inr (1, [.ref A_w_characters, .int rs.1])), (A_w_characters, .inl (cC, w_N, .inl rs.2)), (A_o, .inr (1, [.ref A_o_characters, .int o_count])), (A_o_characters, .inl (cC, o_N, .inl o_characters))] A) args s 0 0 A) (F0 m 2 ls []) := by
    intro  n
    induction n with
    | zero => intro w_count w_characters x2 H locs ls _ _ _ _ hM; exact z_n hM
    | succ n ih =>
      intro w_count w_characters x2 H locs ls hP hD hS hl hM
      refine lv_iload_n hx hb dX1_putRow_2 rfl (lv_at hl 2 rfl) ?_
      refine lv_aload_n hx hb dX1_putRow_3 rfl (lv_at hl 1 rfl) ?_
      obtain ⟨hPc, hDc, hFc⟩ := zcut (wc := [(A_o, .inr (1, [.ref A_o_characters, .int o_count]))]) hP hD hS hA [2] rfl rfl (by decide)
      have hrun : va_Run p l e (headSpec wsX1_putRow ({ frames := 1, cells := 0, slots := 0, locals := 21 } : Room)).room s m args below meth c H locs 0 0 _ _ (F0 m 4 ls _) _ (zQi D cI cJ cC (fn_CharRow_size o_count) [(A_o, .inr (1, [.ref A_o_characters, .int o_count]))] (va_A [(A_o, .inr (1, [.ref A_o_characters, .int o_count]))] H.size) _) (va_A [(A_o, .inr (1, [.ref A_o_characters, .int o_count]))] H.size) := va_runV (As := []) (rest := [.int x2]) ⟨hx, hb, hml, hown, hts⟩ (ct_CharRow_size l D cI cJ cC adK adV A_o A_o_characters H.size o_count) (cwV 0 hts gX1_putRow_X1_size rfl rfl rfl (by decide +kernel) ⟨Nat.le_of_ble_eq_true rfl, Nat.le_of_ble_eq_true rfl⟩) ⟨zblind, va_recv hK hP (ci := 1) (q0 := 2) rfl rfl, zpre hX hS hFc hPc hK hDc⟩ rfl rfl hl.1 rfl (lv_room (Nat.le_of_ble_eq_true rfl)) dX1_putRow_4 ⟨Nat.zero_le _, Nat.zero_le _⟩
      refine zc_i (ws' := [(A_w, .inr (1, [.ref A_w_characters, .int w_count])), (A_w_characters, .inl (cC, w_N, .inl w_characters)), (A_o, .inr (1, [.ref A_o_characters, .int o_count])), (A_o_characters, .inl (cC, o_N, .inl o_characters))]) hrun hP hD hS hFc [2] rfl (by decide) rfl rfl (fun H2 locs hP hD hS => ?_)
      refine lv_icmp_ge (tgt := 25) hx hb dX1_putRow_7 (by decide) (fun c3 => ?_) (fun c3 => ?_)
      · have hM := z_t c3 hM
        have hM := Option.some.inj hM
        subst hM
        exact W.vret hx hb hr (fun t ht hW => ⟨⟨(), rfl, trivial, ⟨by rw [ht]; exact hP, va_K.moved hW.alike hK, hD⟩⟩, hS.F ht⟩) hS.2.2 dX1_putRow_25
      · have hM := z_f c3 hM
        refine lv_aload_n hx hb dX1_putRow_10 rfl (lv_at hl 0 rfl) ?_
        refine lv_aload_n hx hb dX1_putRow_11 rfl (lv_at hl 1 rfl) ?_
        refine lv_iload_n hx hb dX1_putRow_12 rfl (lv_at hl 2 rfl) ?_
        obtain ⟨q4, hq4, hM⟩ := z_b hM
        obtain ⟨hPc, hDc, hFc⟩ := zcut (wc := [(A_o, .inr (1, [.ref A_o_characters, .int o_count])), (A_o_characters, .inl (cC, o_N, .inl o_characters))]) hP hD hS hA [2, 3] rfl rfl (by decide)
        have hrun : va_Run p l e (headSpec wsX1_putRow ({ frames := 1, cells := 0, slots := 0, locals := 21 } : Room)).room s m args below meth c H2 locs 0 0 _ _ (F0 m 13 ls _) _ (zQi D cI cJ cC q4 [(A_o, .inr (1, [.ref A_o_characters, .int o_count])), (A_o_characters, .inl (cC, o_N, .inl o_characters))] (va_A [(A_o, .inr (1, [.ref A_o_characters, .int o_count])), (A_o_characters, .inl (cC, o_N, .inl o_characters))] H2.size) _) (va_A [(A_o, .inr (1, [.ref A_o_characters, .int o_count])), (A_o_characters, .inl (cC, o_N, .inl o_characters))] H2.size) := va_runV (As := [.int x2]) (rest := [.ref A_w]) ⟨hx, hb, hml, hown, hts⟩ (ct_CharRow_at l D cI cJ cC adK adV A_o A_o_characters H2.size o_N o_count o_characters x2 hq4) (cwV 1 hts gX1_putRow_X1_at rfl rfl rfl (by decide +kernel) ⟨Nat.le_of_ble_eq_true rfl, Nat.le_of_ble_eq_true rfl⟩) ⟨zblind, va_recv hK hP (ci := 1) (q0 := 2) rfl rfl, zpre hX hS hFc hPc hK hDc⟩ rfl rfl hl.1 rfl (lv_room (Nat.le_of_ble_eq_true rfl)) dX1_putRow_13 ⟨Nat.zero_le _, Nat.zero_le _⟩
        refine zc_i (ws' := [(A_w, .inr (1, [.ref A_w_characters, .int w_count])), (A_w_characters, .inl (cC, w_N, .inl w_characters)), (A_o, .inr (1, [.ref A_o_characters, .int o_count])), (A_o_characters, .inl (cC, o_N, .inl o_characters))]) hrun hP hD hS hFc [2, 3] rfl (by decide) rfl rfl (fun H5 locs hP hD hS => ?_)
        obtain ⟨q6, hq6, hM⟩ := z_b hM
        obtain ⟨hPc, hDc, hFc⟩ := zcut (wc := [(A_w, .inr (1, [.ref A_w_characters, .int w_count])), (A_w_characters, .inl (cC, w_N, .inl w_characters))]) hP hD hS hA [0, 1] rfl rfl (by decide)
        have hrun : va_Run p l e (headSpec wsX1_putRow ({ frames := 1, cells := 0, slots := 0, locals := 21 } : Room)).room s m args below meth c H5 locs 0 0 _ _ (F0 m 16 ls _) _ (zQv D cI cJ cC [(A_w, .inr (1, [.ref A_w_characters, .int q6.1])), (A_w_characters, .inl (cC, w_N, .inl q6.2))] (va_A [(A_w, .inr (1, [.ref A_w_characters, .int w_count])), (A_w_characters, .inl (cC, w_N, .inl w_characters))] H5.size) _) (va_A [(A_w, .inr (1, [.ref A_w_characters, .int w_count])), (A_w_characters, .inl (cC, w_N, .inl w_characters))] H5.size) := va_runV (As := [.int q4]) (rest := []) ⟨hx, hb, hml, hown, hts⟩ (ct_CharRow_put l D cI cJ cC adK adV A_w A_w_characters H5.size w_N w_count w_characters q4 hq6) (cwV 1 hts gX1_putRow_X1_put rfl rfl rfl (by decide +kernel) ⟨Nat.le_of_ble_eq_true rfl, Nat.le_of_ble_eq_true rfl⟩) ⟨zblind, va_recv hK hP (ci := 1) (q0 := 0) rfl rfl, zpre hX hS hFc hPc hK hDc⟩ rfl rfl hl.1 rfl (lv_room (Nat.le_of_ble_eq_true rfl)) dX1_putRow_16 ⟨Nat.zero_le _, Nat.zero_le _⟩
        refine zc_v (ws' := [(A_w, .inr (1, [.ref A_w_characters, .int q6.1])), (A_w_characters, .inl (cC, w_N, .inl q6.2)), (A_o, .inr (1, [.ref A_o_characters, .int o_count])), (A_o_characters, .inl (cC, o_N, .inl o_characters))]) hrun hP hD hS hFc [0, 1] rfl (by decide) rfl rfl (fun H7 locs hP hD hS => ?_)
        refine lv_iinc (v := (x2 + 1)) (lv' := [(2, .int (x2 + 1)), (0, .ref A_w), (1, .ref A_o)]) hx hb dX1_putRow_19 hl (k := 2) rfl rfl (by decide) rfl (fun ls hl => ?_)
        refine lv_goto (tgt := 2) hx hb dX1_putRow_22 (by decide) ?_
        exact ih q6.1 q6.2 (x2 + 1) _ _ ls hP hD hS (lv_sub hl [1, 2, 0] rfl) hM
  refine lv_iconst (v := 0) hx hb dX1_putRow_0 (by decide) ?_
  refine lv_istore_n (lv' := [(2, .int 0), (0, .ref A_w), (1, .ref A_o)]) hx hb dX1_putRow_1 rfl hl (by decide) rfl (fun ls hl => ?_)
  exact L_2_0  zFU w_count w_characters 0 _ _ ls hP hD hS (lv_sub hl [1, 2, 0] rfl) hM
def fn_CharRow_isSameAs_b49 (w_N : Nat) (o_N : Nat) (w_count : Int32) (w_characters : Nat → Int32) (o_count : Int32) (o_characters : Nat → Int32) (k_19_1 : Int32 → Int32 → Option (Int32)) (x3 : Int32) (k0 : Int32) : Option (Int32) := k_19_1 k0 (x3 + 1)
def fn_CharRow_isSameAs_L19 (w_N : Nat) (o_N : Nat) (w_count : Int32) (w_characters : Nat → Int32) (o_count : Int32) (o_characters : Nat → Int32) : Nat → Int32 → Int32 → Option (Int32)
  | 0 => fun _ _ => none
  | n + 1 => fun x2 x3 => (if w_count ≤ x3 then (if ¬ (x2 = 0 ∨ x2 = 1) then none else some x2) else (if x2 = 0 then (if ¬ (x2 = 0 ∨ x2 = 1) then none else some x2) else ((fn_CharRow_at w_N w_count w_characters x3).bind fun q8 => ((fn_CharRow_at o_N o_count o_characters x3).bind fun q10 => (if q8 = q10 then fn_CharRow_isSameAs_b49 w_N o_N w_count w_characters o_count o_characters (fn_CharRow_isSameAs_L19 w_N o_N w_count w_characters o_count o_characters n) x3 1 else fn_CharRow_isSameAs_b49 w_N o_N w_count w_characters o_count o_characters (fn_CharRow_isSameAs_L19 w_N o_N w_count w_characters o_count o_characters n) x3 0)))))
def fn_CharRow_isSameAs_b16 (w_N : Nat) (o_N : Nat) (w_count : Int32) (w_characters : Nat → Int32) (o_count : Int32) (o_characters : Nat → Int32) (k0 : Int32) : Option (Int32) := fn_CharRow_isSameAs_L19 w_N o_N w_count w_characters o_count o_characters zFU k0 0
def fn_CharRow_isSameAs (w_N : Nat) (o_N : Nat) (w_count : Int32) (w_characters : Nat → Int32) (o_count : Int32) (o_characters : Nat → Int32) : Option (Int32) := (if w_count = (fn_CharRow_size o_count) then fn_CharRow_isSameAs_b16 w_N o_N w_count w_characters o_count o_characters 1 else fn_CharRow_isSameAs_b16 w_N o_N w_count w_characters o_count o_characters 0)
set_option maxHeartbeats 40000000 in
set_option maxRecDepth 100000 in
theorem ct_CharRow_isSameAs (l : Launch) (D : va_G) (cI cJ cC : ClassId) (adK adV : Nat → Nat) (A_w A_w_characters A_o A_o_characters : Nat) (sz : Nat) (w_N : Nat) (o_N : Nat) (w_count : Int32) (w_characters : Nat → Int32) (o_count : Int32) (o_characters : Nat → Int32) {rs : Int32} (hM : fn_CharRow_isSameAs w_N o_N w_count w_characters o_count o_characters = some rs) : Met l yX1_isSameAs wsX1_isSameAs ({ frames := 1, cells := 0, slots := 0, locals := 21 } : Room) (zP D cI cJ cC adK adV [.ref A_w, .ref A_o] sz [(A_w, .inr (1, [.ref A_w_characters, .int w_count])), (A_w_characters, .inl (cC, w_N, .inl w_characters)), (A_o, .inr (1, [.ref A_o_characters, .int o_count])), (A_o_characters, .inl (cC, o_N, .inl o_characters))]) (zQi D cI cJ cC rs [(A_w, .inr (1, [.ref A_w_characters, .int w_count])), (A_w_characters, .inl (cC, w_N, .inl w_characters)), (A_o, .inr (1, [.ref A_o_characters, .int o_count])), (A_o_characters, .inl (cC, o_N, .inl o_characters))] (va_A [(A_w, .inr (1, [.ref A_w_characters, .int w_count])), (A_w_characters, .inl (cC, w_N, .inl w_characters)), (A_o, .inr (1, [.ref A_o_characters, .int o_count])), (A_o_characters, .inl (cC, o_N, .inl o_characters))] sz)) 0 0 (va_A [(A_w, .inr (1, [.ref A_w_characters, .int w_count])), (A_w_characters, .inl (cC, w_N, .inl w_characters)), (A_o, .inr (1, [.ref A_o_characters, .int o_count])), (A_o_characters, .inl (cC, o_N, .inl o_characters))] sz) := by
  refine Met.ofW (cc := cX1_isSameAs) (maxL := 4) (ret := (some .boolean)) (by decide) rfl ?_
  intro p e s m args below meth c s₁ B hml hv0
  obtain ⟨hargs, hsz, hP, hK, hD0, hX⟩ := hv0
  have hx := B.exec
  have hb := B.bytes
  have hr := B.returns
  have hts := atoms_spec (ws := wsX1_isSameAs) B.pre
  have hown : s.vm.findClass RX1 = some m.cls := findClass_of_methodNamed B.named
  have hlocks := B.notSynchronized
  subst hsz
  have hD := hD0.self (sz := s.heap.size)
  generalize hAe : va_A [(A_w, .inr (1, [.ref A_w_characters, .int w_count])), (A_w_characters, .inl (cC, w_N, .inl w_characters)), (A_o, .inr (1, [.ref A_o_characters, .int o_count])), (A_o_characters, .inl (cC, o_N, .inl o_characters))] s.heap.size = A at hD hX ⊢
  have hA : ∀ q : Nat, s.heap.size ≤ q → A q := fun q h => by rw [← hAe]; exact Or.inr h
  have hS : va_S A s.heap s.heap [] := va_S.rf
  have hl := lv_entry ([.ref A_w, .ref A_o]) (n := 4) (Nat.le_of_ble_eq_true rfl)
  rw [hargs, lg_entry_eq, ← hargs]
  generalize (lg_sl ([.ref A_w, .ref A_o]) ++ List.replicate (4 - (lg_sl ([.ref A_w, .ref A_o])).length) Slot.unset).toArray = ls at hl ⊢
  have hl : lv_has ls 4 [(0, .ref A_w), (1, .ref A_o)] := hl
  have hw0 : ∀ w ∈ u_ws RX1 TX1 2, w ∈ wsX1_isSameAs := by decide +kernel
  have hw1 := hts (.fieldLink RX1 21 "NotationParser$CharRow" "count" "I") (by decide +kernel)
  have B_49_2 : ∀ (k_19_1 : Int32 → Int32 → Option (Int32)) (hk_19_1 : ∀ (x2 : Int32) (x3 : Int32) (H : Heap) (locs : List Loc) (ls : Array Slot), va_P D vwCl [(A_w, .inr (1, [.ref A_w_characters, .int w_count])), (A_w_characters, .inl (cC, w_N, .inl w_characters)), (A_o, .inr (1, [.ref A_o_characters, .int o_count])), (A_o_characters, .inl (cC, o_N, .inl o_characters))] H → va_D A [(A_w, .inr (1, [.ref A_w_characters, .int w_count])), (A_w_characters, .inl (cC, w_N, .inl w_characters)), (A_o, .inr (1, [.ref A_o_characters, .int o_count])), (A_o_characters, .inl (cC, o_N, .inl o_characters))] → va_S A s.heap H locs → lv_has ls 4 [(0, .ref A_w), (1, .ref A_o), (2, .int x2), (3, .int x3)] → k_19_1 x2 x3 = some rs → W p l e (headSpec wsX1_isSameAs ({ frames := 1, cells := 0, slots := 0, locals := 21 } : Room)).room s m args below meth c H locs 0 0 (MQ below (zQi D cI cJ cC rs [(A_w, .inr (1, [.ref A_w_characters, .int w_count])), (A_w_characters, .inl (cC, w_N, .inl w_characters)), (A_o, .inr (1, [.ref A_o_characters, .int o_count])), (A_o_characters, .inl (cC, o_N, .inl o_characters))] A) args s 0 0 A) (F0 m 19 ls [])) (x3 : Int32) (k0 : Int32) (H : Heap) (locs : List Loc) (ls : Array Slot), va_P D vwCl [(A_w, .inr (1, [.ref A_w_characters, .int w_count])), (A_w_characters, .inl (cC, w_N, .inl w_characters)), (A_o, .inr (1, [.ref A_o_characters, .int o_count])), (A_o_characters, .inl (cC, o_N, .inl o_characters))] H → va_D A [(A_w, .inr (1, [.ref A_w_characters, .int w_count])), (A_w_characters, .inl (cC, w_N, .inl w_characters)), (A_o, .inr (1, [.ref A_o_characters, .int o_count])), (A_o_characters, .inl (cC, o_N, .inl o_characters))] → va_S A s.heap H locs → lv_has ls 4 [(0, .ref A_w), (1, .ref A_o), (3, .int x3)] → fn_CharRow_isSameAs_b49 w_N o_N w_count w_characters o_count o_characters k_19_1 x3 k0 = some rs → W p l e (headSpec wsX1_isSameAs ({ frames := 1, cells := 0, slots := 0, locals := 21 } : Room)).room s m args below meth c H locs 0 0 (MQ below (zQi D cI cJ cC rs [(A_w, .inr (1, [.ref A_w_characters, .int w_count])), (A_w_characters, .inl (cC, w_N, .inl w_characters)), (A_o, .inr (1, [.ref A_o_characters, .int o_count])), (A_o_characters, .inl (cC, o_N, .inl o_characters))] A) args s 0 0 A) (F0 m 49 ls [.int k0]) := by
    intro k_19_1 hk_19_1 x3 k0 H locs ls hP hD hS hl hM
    refine lv_istore_n (lv' := [(2, .int k0), (0, .ref A_w), (1, .ref A_o), (3, .int x3)]) hx hb dX1_isSameAs_49 rfl hl (by decide) rfl (fun ls hl => ?_)
    refine lv_iinc (v := (x3 + 1)) (lv' := [(3, .int (x3 + 1)), (2, .int k0), (0, .ref A_w), (1, .ref A_o)]) hx hb dX1_isSameAs_50 hl (k := 3) rfl rfl (by decide) rfl (fun ls hl => ?_)
    refine lv_goto (tgt := 19) hx hb dX1_isSameAs_53 (by decide) ?_
    exact hk_19_1 k0 (x3 + 1) _ _ ls hP hD hS (lv_sub hl [2, 3, 1, 0] rfl) hM
  have L_19_1 : ∀ (n : Nat) (x2 : Int32) (x3 : Int32) (H : Heap) (locs : List Loc) (ls : Array Slot), va_P D vwCl [(A_w, .inr (1, [.ref A_w_characters, .int w_count])), (A_w_characters, .inl (cC, w_N, .inl w_characters)), (A_o, .inr (1, [.ref A_o_characters, .int o_count])), (A_o_characters, .inl (cC, o_N, .inl o_characters))] H → va_D A [(A_w, .inr (1, [.ref A_w_characters, .int w_count])), (A_w_characters, .inl (cC, w_N, .inl w_characters)), (A_o, .inr (1, [.ref A_o_characters, .int o_count])), (A_o_characters, .inl (cC, o_N, .inl o_characters))] → va_S A s.heap H locs → lv_has ls 4 [(0, .ref A_w), (1, .ref A_o), (2, .int x2), (3, .int x3)] → fn_CharRow_isSameAs_L19 w_N o_N w_count w_characters o_count o_characters n x2 x3 = some rs → W p l e (headSpec wsX1_isSameAs ({ frames := 1, cells := 0, slots := 0, locals := 21 } : Room)).room s m args below meth c H locs 0 0 (MQ below (zQi D cI cJ cC rs [(A_w, .inr (1, [.ref A_w_characters, .int w_count])), (A_w_characters, .inl (cC, w_N, .inl w_characters)), (A_o, .inr (1, [.ref A_o_characters, .int o_count])), (A_o_characters, .inl (cC, o_N, .inl o_characters))] A) args s 0 0 A) (F0 m 19 ls []) := by
    intro  n
    induction n with
    | zero => intro x2 x3 H locs ls _ _ _ _ hM; exact z_n hM
    | succ n ih =>
      intro x2 x3 H locs ls hP hD hS hl hM
      refine lv_iload_n hx hb dX1_isSameAs_19 rfl (lv_at hl 3 rfl) ?_
      refine lv_aload_n hx hb dX1_isSameAs_20 rfl (lv_at hl 0 rfl) ?_
      refine va_get (D := D) (ci := 1) (v := .int w_count) (C := RX1) (T := TX1) (N := 2) hx hb hts hw0 hown hK hP 0 rfl rfl 1 (by decide) hw1 (fun _ h9 => h9) rfl dX1_isSameAs_21 ?_
      refine lv_icmp_ge (tgt := 56) hx hb dX1_isSameAs_24 (by decide) (fun c4 => ?_) (fun c4 => ?_)
      · have hM := z_t c4 hM
        refine lv_iload_n hx hb dX1_isSameAs_56 rfl (lv_at hl 2 rfl) ?_
        obtain ⟨g5, hM⟩ := z_g hM
        have hM := Option.some.inj hM
        subst hM
        exact W.zret (v := x2) (ty := .boolean) hx hb hr (z_bool g5) (fun t ht hW => ⟨⟨_, (), rfl, rfl, ⟨by rw [ht]; exact hP, va_K.moved hW.alike hK, hD⟩⟩, hS.F ht⟩) hS.2.2 dX1_isSameAs_57
      · have hM := z_f c4 hM
        refine lv_iload_n hx hb dX1_isSameAs_27 rfl (lv_at hl 2 rfl) ?_
        refine lv_if_eq (tgt := 56) hx hb dX1_isSameAs_28 (by decide) (fun c6 => ?_) (fun c6 => ?_)
        · have hM := z_t c6 hM
          refine lv_iload_n hx hb dX1_isSameAs_56 rfl (lv_at hl 2 rfl) ?_
          obtain ⟨g7, hM⟩ := z_g hM
          have hM := Option.some.inj hM
          subst hM
          exact W.zret (v := x2) (ty := .boolean) hx hb hr (z_bool g7) (fun t ht hW => ⟨⟨_, (), rfl, rfl, ⟨by rw [ht]; exact hP, va_K.moved hW.alike hK, hD⟩⟩, hS.F ht⟩) hS.2.2 dX1_isSameAs_57
        · have hM := z_f c6 hM
          refine lv_aload_n hx hb dX1_isSameAs_31 rfl (lv_at hl 0 rfl) ?_
          refine lv_iload_n hx hb dX1_isSameAs_32 rfl (lv_at hl 3 rfl) ?_
          obtain ⟨q8, hq8, hM⟩ := z_b hM
          obtain ⟨hPc, hDc, hFc⟩ := zcut (wc := [(A_w, .inr (1, [.ref A_w_characters, .int w_count])), (A_w_characters, .inl (cC, w_N, .inl w_characters))]) hP hD hS hA [0, 1] rfl rfl (by decide)
          have hrun : va_Run p l e (headSpec wsX1_isSameAs ({ frames := 1, cells := 0, slots := 0, locals := 21 } : Room)).room s m args below meth c H locs 0 0 _ _ (F0 m 33 ls _) _ (zQi D cI cJ cC q8 [(A_w, .inr (1, [.ref A_w_characters, .int w_count])), (A_w_characters, .inl (cC, w_N, .inl w_characters))] (va_A [(A_w, .inr (1, [.ref A_w_characters, .int w_count])), (A_w_characters, .inl (cC, w_N, .inl w_characters))] H.size) _) (va_A [(A_w, .inr (1, [.ref A_w_characters, .int w_count])), (A_w_characters, .inl (cC, w_N, .inl w_characters))] H.size) := va_runV (As := [.int x3]) (rest := []) ⟨hx, hb, hml, hown, hts⟩ (ct_CharRow_at l D cI cJ cC adK adV A_w A_w_characters H.size w_N w_count w_characters x3 hq8) (cwV 1 hts gX1_isSameAs_X1_at rfl rfl rfl (by decide +kernel) ⟨Nat.le_of_ble_eq_true rfl, Nat.le_of_ble_eq_true rfl⟩) ⟨zblind, va_recv hK hP (ci := 1) (q0 := 0) rfl rfl, zpre hX hS hFc hPc hK hDc⟩ rfl rfl hl.1 rfl (lv_room (Nat.le_of_ble_eq_true rfl)) dX1_isSameAs_33 ⟨Nat.zero_le _, Nat.zero_le _⟩
          refine zc_i (ws' := [(A_w, .inr (1, [.ref A_w_characters, .int w_count])), (A_w_characters, .inl (cC, w_N, .inl w_characters)), (A_o, .inr (1, [.ref A_o_characters, .int o_count])), (A_o_characters, .inl (cC, o_N, .inl o_characters))]) hrun hP hD hS hFc [0, 1] rfl (by decide) rfl rfl (fun H9 locs hP hD hS => ?_)
          refine lv_aload_n hx hb dX1_isSameAs_36 rfl (lv_at hl 1 rfl) ?_
          refine lv_iload_n hx hb dX1_isSameAs_37 rfl (lv_at hl 3 rfl) ?_
          obtain ⟨q10, hq10, hM⟩ := z_b hM
          obtain ⟨hPc, hDc, hFc⟩ := zcut (wc := [(A_o, .inr (1, [.ref A_o_characters, .int o_count])), (A_o_characters, .inl (cC, o_N, .inl o_characters))]) hP hD hS hA [2, 3] rfl rfl (by decide)
          have hrun : va_Run p l e (headSpec wsX1_isSameAs ({ frames := 1, cells := 0, slots := 0, locals := 21 } : Room)).room s m args below meth c H9 locs 0 0 _ _ (F0 m 38 ls _) _ (zQi D cI cJ cC q10 [(A_o, .inr (1, [.ref A_o_characters, .int o_count])), (A_o_characters, .inl (cC, o_N, .inl o_characters))] (va_A [(A_o, .inr (1, [.ref A_o_characters, .int o_count])), (A_o_characters, .inl (cC, o_N, .inl o_characters))] H9.size) _) (va_A [(A_o, .inr (1, [.ref A_o_characters, .int o_count])), (A_o_characters, .inl (cC, o_N, .inl o_characters))] H9.size) := va_runV (As := [.int x3]) (rest := [.int q8]) ⟨hx, hb, hml, hown, hts⟩ (ct_CharRow_at l D cI cJ cC adK adV A_o A_o_characters H9.size o_N o_count o_characters x3 hq10) (cwV 1 hts gX1_isSameAs_X1_at rfl rfl rfl (by decide +kernel) ⟨Nat.le_of_ble_eq_true rfl, Nat.le_of_ble_eq_true rfl⟩) ⟨zblind, va_recv hK hP (ci := 1) (q0 := 2) rfl rfl, zpre hX hS hFc hPc hK hDc⟩ rfl rfl hl.1 rfl (lv_room (Nat.le_of_ble_eq_true rfl)) dX1_isSameAs_38 ⟨Nat.zero_le _, Nat.zero_le _⟩
          refine zc_i (ws' := [(A_w, .inr (1, [.ref A_w_characters, .int w_count])), (A_w_characters, .inl (cC, w_N, .inl w_characters)), (A_o, .inr (1, [.ref A_o_characters, .int o_count])), (A_o_characters, .inl (cC, o_N, .inl o_characters))]) hrun hP hD hS hFc [2, 3] rfl (by decide) rfl rfl (fun H11 locs hP hD hS => ?_)
          refine lv_icmp_ne (tgt := 48) hx hb dX1_isSameAs_41 (by decide) (fun c12 => ?_) (fun c12 => ?_)
          · have hM := z_f c12 hM
            refine lv_iconst (v := 0) hx hb dX1_isSameAs_48 (by decide) ?_
            exact B_49_2 (fn_CharRow_isSameAs_L19 w_N o_N w_count w_characters o_count o_characters n) ih x3 0 _ _ ls hP hD hS (lv_sub hl [0, 1, 3] rfl) hM
          · have hM := z_t c12 hM
            refine lv_iconst (v := 1) hx hb dX1_isSameAs_44 (by decide) ?_
            refine lv_goto (tgt := 49) hx hb dX1_isSameAs_45 (by decide) ?_
            exact B_49_2 (fn_CharRow_isSameAs_L19 w_N o_N w_count w_characters o_count o_characters n) ih x3 1 _ _ ls hP hD hS (lv_sub hl [0, 1, 3] rfl) hM
  have B_16_0 : ∀ (k0 : Int32) (H : Heap) (locs : List Loc) (ls : Array Slot), va_P D vwCl [(A_w, .inr (1, [.ref A_w_characters, .int w_count])), (A_w_characters, .inl (cC, w_N, .inl w_characters)), (A_o, .inr (1, [.ref A_o_characters, .int o_count])), (A_o_characters, .inl (cC, o_N, .inl o_characters))] H → va_D A [(A_w, .inr (1, [.ref A_w_characters, .int w_count])), (A_w_characters, .inl (cC, w_N, .inl w_characters)), (A_o, .inr (1, [.ref A_o_characters, .int o_count])), (A_o_characters, .inl (cC, o_N, .inl o_characters))] → va_S A s.heap H locs → lv_has ls 4 [(0, .ref A_w), (1, .ref A_o)] → fn_CharRow_isSameAs_b16 w_N o_N w_count w_characters o_count o_characters k0 = some rs → W p l e (headSpec wsX1_isSameAs ({ frames := 1, cells := 0, slots := 0, locals := 21 } : Room)).room s m args below meth c H locs 0 0 (MQ below (zQi D cI cJ cC rs [(A_w, .inr (1, [.ref A_w_characters, .int w_count])), (A_w_characters, .inl (cC, w_N, .inl w_characters)), (A_o, .inr (1, [.ref A_o_characters, .int o_count])), (A_o_characters, .inl (cC, o_N, .inl o_characters))] A) args s 0 0 A) (F0 m 16 ls [.int k0]) := by
    intro  k0 H locs ls hP hD hS hl hM
    refine lv_istore_n (lv' := [(2, .int k0), (0, .ref A_w), (1, .ref A_o)]) hx hb dX1_isSameAs_16 rfl hl (by decide) rfl (fun ls hl => ?_)
    refine lv_iconst (v := 0) hx hb dX1_isSameAs_17 (by decide) ?_
    refine lv_istore_n (lv' := [(3, .int 0), (2, .int k0), (0, .ref A_w), (1, .ref A_o)]) hx hb dX1_isSameAs_18 rfl hl (by decide) rfl (fun ls hl => ?_)
    exact L_19_1  zFU k0 0 _ _ ls hP hD hS (lv_sub hl [2, 3, 1, 0] rfl) hM
  refine lv_aload_n hx hb dX1_isSameAs_0 rfl (lv_at hl 0 rfl) ?_
  refine va_get (D := D) (ci := 1) (v := .int w_count) (C := RX1) (T := TX1) (N := 2) hx hb hts hw0 hown hK hP 0 rfl rfl 1 (by decide) hw1 (fun _ h9 => h9) rfl dX1_isSameAs_1 ?_
  refine lv_aload_n hx hb dX1_isSameAs_4 rfl (lv_at hl 1 rfl) ?_
  obtain ⟨hPc, hDc, hFc⟩ := zcut (wc := [(A_o, .inr (1, [.ref A_o_characters, .int o_count]))]) hP hD hS hA [2] rfl rfl (by decide)
  have hrun : va_Run p l e (headSpec wsX1_isSameAs ({ frames := 1, cells := 0, slots := 0, locals := 21 } : Room)).room s m args below meth c s.heap [] 0 0 _ _ (F0 m 5 ls _) _ (zQi D cI cJ cC (fn_CharRow_size o_count) [(A_o, .inr (1, [.ref A_o_characters, .int o_count]))] (va_A [(A_o, .inr (1, [.ref A_o_characters, .int o_count]))] s.heap.size) _) (va_A [(A_o, .inr (1, [.ref A_o_characters, .int o_count]))] s.heap.size) := va_runV (As := []) (rest := [.int w_count]) ⟨hx, hb, hml, hown, hts⟩ (ct_CharRow_size l D cI cJ cC adK adV A_o A_o_characters s.heap.size o_count) (cwV 0 hts gX1_isSameAs_X1_size rfl rfl rfl (by decide +kernel) ⟨Nat.le_of_ble_eq_true rfl, Nat.le_of_ble_eq_true rfl⟩) ⟨zblind, va_recv hK hP (ci := 1) (q0 := 2) rfl rfl, zpre hX hS hFc hPc hK hDc⟩ rfl rfl hl.1 rfl (lv_room (Nat.le_of_ble_eq_true rfl)) dX1_isSameAs_5 ⟨Nat.zero_le _, Nat.zero_le _⟩
  refine zc_i (ws' := [(A_w, .inr (1, [.ref A_w_characters, .int w_count])), (A_w_characters, .inl (cC, w_N, .inl w_characters)), (A_o, .inr (1, [.ref A_o_characters, .int o_count])), (A_o_characters, .inl (cC, o_N, .inl o_characters))]) hrun hP hD hS hFc [2] rfl (by decide) rfl rfl (fun H2 locs hP hD hS => ?_)
  refine lv_icmp_ne (tgt := 15) hx hb dX1_isSameAs_8 (by decide) (fun c3 => ?_) (fun c3 => ?_)
  · have hM := z_f c3 hM
    refine lv_iconst (v := 0) hx hb dX1_isSameAs_15 (by decide) ?_
    exact B_16_0  0 _ _ ls hP hD hS (lv_sub hl [0, 1] rfl) hM
  · have hM := z_t c3 hM
    refine lv_iconst (v := 1) hx hb dX1_isSameAs_11 (by decide) ?_
    refine lv_goto (tgt := 16) hx hb dX1_isSameAs_12 (by decide) ?_
    exact B_16_0  1 _ _ ls hP hD hS (lv_sub hl [0, 1] rfl) hM
def fn_CharRow_putWord_L2 (w_N : Nat) : Nat → Int32 → (Nat → Int32) → Nat → Int32 → Option (Int32 × (Nat → Int32))
  | 0 => fun _ _ _ _ => none
  | n + 1 => fun w_count w_characters x1 x2 => (if zNs ≤ x1 then none else (if (nI (zlen x1)) ≤ x2 then some (w_count, w_characters) else (if zNs ≤ x1 ∨ (x2 < 0 ∨ zlen x1 ≤ x2.toNatClampNeg) then none else ((fn_CharRow_put w_N w_count w_characters (zch x1 x2.toNatClampNeg)).bind fun q6 => (fn_CharRow_putWord_L2 w_N n) q6.1 q6.2 x1 (x2 + 1)))))
def fn_CharRow_putWord (w_N : Nat) (w_count : Int32) (w_characters : Nat → Int32) (x1 : Nat) : Option (Int32 × (Nat → Int32)) := fn_CharRow_putWord_L2 w_N zFU w_count w_characters x1 0
set_option maxHeartbeats 40000000 in
set_option maxRecDepth 100000 in
theorem ct_CharRow_putWord (l : Launch) (D : va_G) (cI cJ cC : ClassId) (adK adV : Nat → Nat) (A_w A_w_characters : Nat) (sz : Nat) (w_N : Nat) (w_count : Int32) (w_characters : Nat → Int32) (x1 : Nat) {rs : Int32 × (Nat → Int32)} (hM : fn_CharRow_putWord w_N w_count w_characters x1 = some rs) : Met l yX1_putWord wsX1_putWord ({ frames := 4, cells := 0, slots := 0, locals := 85 } : Room) (zP D cI cJ cC adK adV [.ref A_w, .ref (adK x1)] sz [(A_w, .inr (1, [.ref A_w_characters, .int w_count])), (A_w_characters, .inl (cC, w_N, .inl w_characters))]) (zQv D cI cJ cC [(A_w, .inr (1, [.ref A_w_characters, .int rs.1])), (A_w_characters, .inl (cC, w_N, .inl rs.2))] (va_A [(A_w, .inr (1, [.ref A_w_characters, .int w_count])), (A_w_characters, .inl (cC, w_N, .inl w_characters))] sz)) 0 0 (va_A [(A_w, .inr (1, [.ref A_w_characters, .int w_count])), (A_w_characters, .inl (cC, w_N, .inl w_characters))] sz) := by
  refine Met.ofW (cc := cX1_putWord) (maxL := 3) (ret := none) (by decide) rfl ?_
  intro p e s m args below meth c s₁ B hml hv0
  obtain ⟨hargs, hsz, hP, hK, hD0, hX⟩ := hv0
  have hx := B.exec
  have hb := B.bytes
  have hr := B.returns
  have hts := atoms_spec (ws := wsX1_putWord) B.pre
  have hown : s.vm.findClass RX1 = some m.cls := findClass_of_methodNamed B.named
  have hlocks := B.notSynchronized
  subst hsz
  have hD := hD0.self (sz := s.heap.size)
  generalize hAe : va_A [(A_w, .inr (1, [.ref A_w_characters, .int w_count])), (A_w_characters, .inl (cC, w_N, .inl w_characters))] s.heap.size = A at hD hX ⊢
  have hA : ∀ q : Nat, s.heap.size ≤ q → A q := fun q h => by rw [← hAe]; exact Or.inr h
  have hS : va_S A s.heap s.heap [] := va_S.rf
  have hl := lv_entry ([.ref A_w, .ref (adK x1)]) (n := 3) (Nat.le_of_ble_eq_true rfl)
  rw [hargs, lg_entry_eq, ← hargs]
  generalize (lg_sl ([.ref A_w, .ref (adK x1)]) ++ List.replicate (3 - (lg_sl ([.ref A_w, .ref (adK x1)])).length) Slot.unset).toArray = ls at hl ⊢
  have hl : lv_has ls 3 [(0, .ref A_w), (1, .ref (adK x1))] := hl
  have L_2_0 : ∀ (n : Nat) (w_count : Int32) (w_characters : Nat → Int32) (x1 : Nat) (x2 : Int32) (H : Heap) (locs : List Loc) (ls : Array Slot), va_P D vwCl [(A_w, .inr (1, [.ref A_w_characters, .int w_count])), (A_w_characters, .inl (cC, w_N, .inl w_characters))] H → va_D A [(A_w, .inr (1, [.ref A_w_characters, .int w_count])), (A_w_characters, .inl (cC, w_N, .inl w_characters))] → va_S A s.heap H locs → lv_has ls 3 [(0, .ref A_w), (1, .ref (adK x1)), (2, .int x2)] → fn_CharRow_putWord_L2 w_N n w_count w_characters x1 x2 = some rs → W p l e (headSpec wsX1_putWord ({ frames := 4, cells := 0, slots := 0, locals := 85 } : Room)).room s m args below meth c H locs 0 0 (MQ below (zQv D cI cJ cC [(A_w, .inr (1, [.ref A_w_characters, .int rs.1])), (A_w_characters, .inl (cC, w_N, .inl rs.2))] A) args s 0 0 A) (F0 m 2 ls []) := by
    intro  n
    induction n with
    | zero => intro w_count w_characters x1 x2 H locs ls _ _ _ _ hM; exact z_n hM
    | succ n ih =>
      intro w_count w_characters x1 x2 H locs ls hP hD hS hl hM
      refine lv_iload_n hx hb dX1_putWord_2 rfl (lv_at hl 2 rfl) ?_
      refine lv_aload_n hx hb dX1_putWord_3 rfl (lv_at hl 1 rfl) ?_
      obtain ⟨g1, hM⟩ := z_g hM
      obtain ⟨hPc, hDc, hFc⟩ := zcut (wc := []) hP hD hS hA [] rfl rfl (by decide)
      refine zc_i (ws' := [(A_w, .inr (1, [.ref A_w_characters, .int w_count])), (A_w_characters, .inl (cC, w_N, .inl w_characters))]) (va_runV (As := []) (rest := [.int x2]) ⟨hx, hb, hml, hown, hts⟩ (ct_slen l D cI cJ cC adK adV H.size x1 (Nat.lt_of_not_le g1)) (cwV 0 hts gX1_putWord_J0_length_8abf5 rfl rfl rfl (by decide +kernel) ⟨Nat.le_of_ble_eq_true rfl, Nat.le_of_ble_eq_true rfl⟩) ⟨zblind, zrecvS hX hS (Nat.lt_of_not_le g1), zpre hX hS hFc hPc hK hDc⟩ rfl rfl hl.1 rfl (lv_room (Nat.le_of_ble_eq_true rfl)) dX1_putWord_4 ⟨Nat.zero_le _, Nat.zero_le _⟩) hP hD hS hFc [] rfl (by decide) rfl rfl (fun H2 locs hP hD hS => ?_)
      refine lv_icmp_ge (tgt := 25) hx hb dX1_putWord_7 (by decide) (fun c3 => ?_) (fun c3 => ?_)
      · have hM := z_t c3 hM
        have hM := Option.some.inj hM
        subst hM
        exact W.vret hx hb hr (fun t ht hW => ⟨⟨(), rfl, trivial, ⟨by rw [ht]; exact hP, va_K.moved hW.alike hK, hD⟩⟩, hS.F ht⟩) hS.2.2 dX1_putWord_25
      · have hM := z_f c3 hM
        refine lv_aload_n hx hb dX1_putWord_10 rfl (lv_at hl 0 rfl) ?_
        refine lv_aload_n hx hb dX1_putWord_11 rfl (lv_at hl 1 rfl) ?_
        refine lv_iload_n hx hb dX1_putWord_12 rfl (lv_at hl 2 rfl) ?_
        obtain ⟨g4, hM⟩ := z_g hM
        obtain ⟨hPc, hDc, hFc⟩ := zcut (wc := []) hP hD hS hA [] rfl rfl (by decide)
        refine zc_i (ws' := [(A_w, .inr (1, [.ref A_w_characters, .int w_count])), (A_w_characters, .inl (cC, w_N, .inl w_characters))]) (va_runV (As := [.int x2]) (rest := [.ref A_w]) ⟨hx, hb, hml, hown, hts⟩ (ct_scharAt l D cI cJ cC adK adV H2.size x1 x2 g4) (cwV 1 hts gX1_putWord_J0_charAt_5068e rfl rfl rfl (by decide +kernel) ⟨Nat.le_of_ble_eq_true rfl, Nat.le_of_ble_eq_true rfl⟩) ⟨zblind, zrecvS hX hS (Nat.lt_of_not_le (fun h => g4 (Or.inl h))), zpre hX hS hFc hPc hK hDc⟩ rfl rfl hl.1 rfl (lv_room (Nat.le_of_ble_eq_true rfl)) dX1_putWord_13 ⟨Nat.zero_le _, Nat.zero_le _⟩) hP hD hS hFc [] rfl (by decide) rfl rfl (fun H5 locs hP hD hS => ?_)
        obtain ⟨q6, hq6, hM⟩ := z_b hM
        obtain ⟨hPc, hDc, hFc⟩ := zcut (wc := [(A_w, .inr (1, [.ref A_w_characters, .int w_count])), (A_w_characters, .inl (cC, w_N, .inl w_characters))]) hP hD hS hA [0, 1] rfl rfl (by decide)
        have hrun : va_Run p l e (headSpec wsX1_putWord ({ frames := 4, cells := 0, slots := 0, locals := 85 } : Room)).room s m args below meth c H5 locs 0 0 _ _ (F0 m 16 ls _) _ (zQv D cI cJ cC [(A_w, .inr (1, [.ref A_w_characters, .int q6.1])), (A_w_characters, .inl (cC, w_N, .inl q6.2))] (va_A [(A_w, .inr (1, [.ref A_w_characters, .int w_count])), (A_w_characters, .inl (cC, w_N, .inl w_characters))] H5.size) _) (va_A [(A_w, .inr (1, [.ref A_w_characters, .int w_count])), (A_w_characters, .inl (cC, w_N, .inl w_characters))] H5.size) := va_runV (As := [.int (zch x1 x2.toNatClampNeg)]) (rest := []) ⟨hx, hb, hml, hown, hts⟩ (ct_CharRow_put l D cI cJ cC adK adV A_w A_w_characters H5.size w_N w_count w_characters (zch x1 x2.toNatClampNeg) hq6) (cwV 1 hts gX1_putWord_X1_put rfl rfl rfl (by decide +kernel) ⟨Nat.le_of_ble_eq_true rfl, Nat.le_of_ble_eq_true rfl⟩) ⟨zblind, va_recv hK hP (ci := 1) (q0 := 0) rfl rfl, zpre hX hS hFc hPc hK hDc⟩ rfl rfl hl.1 rfl (lv_room (Nat.le_of_ble_eq_true rfl)) dX1_putWord_16 ⟨Nat.zero_le _, Nat.zero_le _⟩
        refine zc_v (ws' := [(A_w, .inr (1, [.ref A_w_characters, .int q6.1])), (A_w_characters, .inl (cC, w_N, .inl q6.2))]) hrun hP hD hS hFc [0, 1] rfl (by decide) rfl rfl (fun H7 locs hP hD hS => ?_)
        refine lv_iinc (v := (x2 + 1)) (lv' := [(2, .int (x2 + 1)), (0, .ref A_w), (1, .ref (adK x1))]) hx hb dX1_putWord_19 hl (k := 2) rfl rfl (by decide) rfl (fun ls hl => ?_)
        refine lv_goto (tgt := 2) hx hb dX1_putWord_22 (by decide) ?_
        exact ih q6.1 q6.2 x1 (x2 + 1) _ _ ls hP hD hS (lv_sub hl [1, 2, 0] rfl) hM
  refine lv_iconst (v := 0) hx hb dX1_putWord_0 (by decide) ?_
  refine lv_istore_n (lv' := [(2, .int 0), (0, .ref A_w), (1, .ref (adK x1))]) hx hb dX1_putWord_1 rfl hl (by decide) rfl (fun ls hl => ?_)
  exact L_2_0  zFU w_count w_characters x1 0 _ _ ls hP hD hS (lv_sub hl [1, 2, 0] rfl) hM
def fn_IntStack_size (k_count : Int32) : Int32 := k_count
set_option maxHeartbeats 40000000 in
set_option maxRecDepth 100000 in
theorem ct_IntStack_size (l : Launch) (D : va_G) (cI cJ cC : ClassId) (adK adV : Nat → Nat) (A_k A_k_items : Nat) (sz : Nat) (k_count : Int32) : Met l yX3_size wsX3_size ({ frames := 0, cells := 0, slots := 0, locals := 0 } : Room) (zP D cI cJ cC adK adV [.ref A_k] sz [(A_k, .inr (3, [.ref A_k_items, .int k_count]))]) (zQi D cI cJ cC (fn_IntStack_size k_count) [(A_k, .inr (3, [.ref A_k_items, .int k_count]))] (va_A [(A_k, .inr (3, [.ref A_k_items, .int k_count]))] sz)) 0 0 (va_A [(A_k, .inr (3, [.ref A_k_items, .int k_count]))] sz) := by
  obtain ⟨rs, hM⟩ : ∃ rs, fn_IntStack_size k_count = rs := ⟨_, rfl⟩
  rw [hM]
  refine Met.ofW (cc := cX3_size) (maxL := 1) (ret := (some .int)) (by decide) rfl ?_
  intro p e s m args below meth c s₁ B hml hv0
  obtain ⟨hargs, hsz, hP, hK, hD0, hX⟩ := hv0
  have hx := B.exec
  have hb := B.bytes
  have hr := B.returns
  have hts := atoms_spec (ws := wsX3_size) B.pre
  have hown : s.vm.findClass RX3 = some m.cls := findClass_of_methodNamed B.named
  have hlocks := B.notSynchronized
  subst hsz
  have hD := hD0.self (sz := s.heap.size)
  generalize hAe : va_A [(A_k, .inr (3, [.ref A_k_items, .int k_count]))] s.heap.size = A at hD hX ⊢
  have hA : ∀ q : Nat, s.heap.size ≤ q → A q := fun q h => by rw [← hAe]; exact Or.inr h
  have hS : va_S A s.heap s.heap [] := va_S.rf
  have hl := lv_entry ([.ref A_k]) (n := 1) (Nat.le_of_ble_eq_true rfl)
  rw [hargs, lg_entry_eq, ← hargs]
  generalize (lg_sl ([.ref A_k]) ++ List.replicate (1 - (lg_sl ([.ref A_k])).length) Slot.unset).toArray = ls at hl ⊢
  have hl : lv_has ls 1 [(0, .ref A_k)] := hl
  have hw0 : ∀ w ∈ u_ws RX3 TX3 2, w ∈ wsX3_size := by decide +kernel
  have hw1 := hts (.fieldLink RX3 21 "NotationParser$IntStack" "count" "I") (by decide +kernel)
  refine lv_aload_n hx hb dX3_size_0 rfl (lv_at hl 0 rfl) ?_
  refine va_get (D := D) (ci := 3) (v := .int k_count) (C := RX3) (T := TX3) (N := 2) hx hb hts hw0 hown hK hP 0 rfl rfl 1 (by decide) hw1 (fun _ h9 => h9) rfl dX3_size_1 ?_
  have hM := hM
  subst hM
  exact W.iret (v := k_count) hx hb hr (fun t ht hW => ⟨⟨_, (), rfl, rfl, ⟨by rw [ht]; exact hP, va_K.moved hW.alike hK, hD⟩⟩, hS.F ht⟩) hS.2.2 dX3_size_4
def fn_IntStack_clear (k_count : Int32) : Int32 := 0
set_option maxHeartbeats 40000000 in
set_option maxRecDepth 100000 in
theorem ct_IntStack_clear (l : Launch) (D : va_G) (cI cJ cC : ClassId) (adK adV : Nat → Nat) (A_k A_k_items : Nat) (sz : Nat) (k_count : Int32) : Met l yX3_clear wsX3_clear ({ frames := 0, cells := 0, slots := 0, locals := 0 } : Room) (zP D cI cJ cC adK adV [.ref A_k] sz [(A_k, .inr (3, [.ref A_k_items, .int k_count]))]) (zQv D cI cJ cC [(A_k, .inr (3, [.ref A_k_items, .int (fn_IntStack_clear k_count)]))] (va_A [(A_k, .inr (3, [.ref A_k_items, .int k_count]))] sz)) 0 0 (va_A [(A_k, .inr (3, [.ref A_k_items, .int k_count]))] sz) := by
  obtain ⟨rs, hM⟩ : ∃ rs, fn_IntStack_clear k_count = rs := ⟨_, rfl⟩
  rw [hM]
  refine Met.ofW (cc := cX3_clear) (maxL := 1) (ret := none) (by decide) rfl ?_
  intro p e s m args below meth c s₁ B hml hv0
  obtain ⟨hargs, hsz, hP, hK, hD0, hX⟩ := hv0
  have hx := B.exec
  have hb := B.bytes
  have hr := B.returns
  have hts := atoms_spec (ws := wsX3_clear) B.pre
  have hown : s.vm.findClass RX3 = some m.cls := findClass_of_methodNamed B.named
  have hlocks := B.notSynchronized
  subst hsz
  have hD := hD0.self (sz := s.heap.size)
  generalize hAe : va_A [(A_k, .inr (3, [.ref A_k_items, .int k_count]))] s.heap.size = A at hD hX ⊢
  have hA : ∀ q : Nat, s.heap.size ≤ q → A q := fun q h => by rw [← hAe]; exact Or.inr h
  have hS : va_S A s.heap s.heap [] := va_S.rf
  have hl := lv_entry ([.ref A_k]) (n := 1) (Nat.le_of_ble_eq_true rfl)
  rw [hargs, lg_entry_eq, ← hargs]
  generalize (lg_sl ([.ref A_k]) ++ List.replicate (1 - (lg_sl ([.ref A_k])).length) Slot.unset).toArray = ls at hl ⊢
  have hl : lv_has ls 1 [(0, .ref A_k)] := hl
  have hw0 : ∀ w ∈ u_ws RX3 TX3 2, w ∈ wsX3_clear := by decide +kernel
  have hw1 := hts (.fieldLink RX3 21 "NotationParser$IntStack" "count" "I") (by decide +kernel)
  refine lv_aload_n hx hb dX3_clear_0 rfl (lv_at hl 0 rfl) ?_
  refine lv_iconst (v := 0) hx hb dX3_clear_1 (by decide) ?_
  refine va_put (D := D) (ci := 3) (v := .int 0) (ty := .int) (C := RX3) (T := TX3) (N := 2) hx hb hts hw0 tyX3 tyX3_ok nmX3 hown hK hP hD hS 0 rfl rfl 1 (by decide) hw1 (fun _ h9 => h9) rfl (by decide +kernel) rfl rfl (Nat.le_of_ble_eq_true rfl) dX3_clear_2 (fun H1 locs hP hD hS => ?_)
  have hP : va_P D vwCl [(A_k, .inr (3, [.ref A_k_items, .int 0]))] H1 := hP
  have hD : va_D A [(A_k, .inr (3, [.ref A_k_items, .int 0]))] := hD
  have hM := hM
  subst hM
  exact W.vret hx hb hr (fun t ht hW => ⟨⟨(), rfl, trivial, ⟨by rw [ht]; exact hP, va_K.moved hW.alike hK, hD⟩⟩, hS.F ht⟩) hS.2.2 dX3_clear_5
def fn_IntStack_push (k_N : Nat) (k_count : Int32) (k_items : Nat → Int32) (x1 : Int32) : Option (Int32 × (Nat → Int32)) := (if (nI k_N) ≤ k_count then some (k_count, k_items) else (if (k_count < 0 ∨ k_N ≤ k_count.toNatClampNeg) then none else some ((k_count + 1), (upd k_items k_count.toNatClampNeg x1))))
set_option maxHeartbeats 40000000 in
set_option maxRecDepth 100000 in
theorem ct_IntStack_push (l : Launch) (D : va_G) (cI cJ cC : ClassId) (adK adV : Nat → Nat) (A_k A_k_items : Nat) (sz : Nat) (k_N : Nat) (k_count : Int32) (k_items : Nat → Int32) (x1 : Int32) {rs : Int32 × (Nat → Int32)} (hM : fn_IntStack_push k_N k_count k_items x1 = some rs) : Met l yX3_push wsX3_push ({ frames := 0, cells := 0, slots := 0, locals := 0 } : Room) (zP D cI cJ cC adK adV [.ref A_k, .int x1] sz [(A_k, .inr (3, [.ref A_k_items, .int k_count])), (A_k_items, .inl (cI, k_N, .inl k_items))]) (zQv D cI cJ cC [(A_k, .inr (3, [.ref A_k_items, .int rs.1])), (A_k_items, .inl (cI, k_N, .inl rs.2))] (va_A [(A_k, .inr (3, [.ref A_k_items, .int k_count])), (A_k_items, .inl (cI, k_N, .inl k_items))] sz)) 0 0 (va_A [(A_k, .inr (3, [.ref A_k_items, .int k_count])), (A_k_items, .inl (cI, k_N, .inl k_items))] sz) := by
  refine Met.ofW (cc := cX3_push) (maxL := 2) (ret := none) (by decide) rfl ?_
  intro p e s m args below meth c s₁ B hml hv0
  obtain ⟨hargs, hsz, hP, hK, hD0, hX⟩ := hv0
  have hx := B.exec
  have hb := B.bytes
  have hr := B.returns
  have hts := atoms_spec (ws := wsX3_push) B.pre
  have hown : s.vm.findClass RX3 = some m.cls := findClass_of_methodNamed B.named
  have hlocks := B.notSynchronized
  subst hsz
  have hD := hD0.self (sz := s.heap.size)
  generalize hAe : va_A [(A_k, .inr (3, [.ref A_k_items, .int k_count])), (A_k_items, .inl (cI, k_N, .inl k_items))] s.heap.size = A at hD hX ⊢
  have hA : ∀ q : Nat, s.heap.size ≤ q → A q := fun q h => by rw [← hAe]; exact Or.inr h
  have hS : va_S A s.heap s.heap [] := va_S.rf
  have hl := lv_entry ([.ref A_k, .int x1]) (n := 2) (Nat.le_of_ble_eq_true rfl)
  rw [hargs, lg_entry_eq, ← hargs]
  generalize (lg_sl ([.ref A_k, .int x1]) ++ List.replicate (2 - (lg_sl ([.ref A_k, .int x1])).length) Slot.unset).toArray = ls at hl ⊢
  have hl : lv_has ls 2 [(0, .ref A_k), (1, .int x1)] := hl
  have hw0 : ∀ w ∈ u_ws RX3 TX3 2, w ∈ wsX3_push := by decide +kernel
  have hw1 := hts (.fieldLink RX3 21 "NotationParser$IntStack" "count" "I") (by decide +kernel)
  have hw2 := hts (.fieldLink RX3 15 "NotationParser$IntStack" "items" "[I") (by decide +kernel)
  refine lv_aload_n hx hb dX3_push_0 rfl (lv_at hl 0 rfl) ?_
  refine va_get (D := D) (ci := 3) (v := .int k_count) (C := RX3) (T := TX3) (N := 2) hx hb hts hw0 hown hK hP 0 rfl rfl 1 (by decide) hw1 (fun _ h9 => h9) rfl dX3_push_1 ?_
  refine lv_aload_n hx hb dX3_push_4 rfl (lv_at hl 0 rfl) ?_
  refine va_get (D := D) (ci := 3) (v := .ref A_k_items) (C := RX3) (T := TX3) (N := 2) hx hb hts hw0 hown hK hP 0 rfl rfl 0 (by decide) hw2 (fun _ h9 => h9) rfl dX3_push_5 ?_
  refine va_alen hx hb hK hP 1 0 (v := (nI k_N)) rfl rfl rfl dX3_push_8 ?_
  refine lv_icmp_ge (tgt := 32) hx hb dX3_push_9 (by decide) (fun c1 => ?_) (fun c1 => ?_)
  · have hM := z_t c1 hM
    have hM := Option.some.inj hM
    subst hM
    exact W.vret hx hb hr (fun t ht hW => ⟨⟨(), rfl, trivial, ⟨by rw [ht]; exact hP, va_K.moved hW.alike hK, hD⟩⟩, hS.F ht⟩) hS.2.2 dX3_push_32
  · have hM := z_f c1 hM
    refine lv_aload_n hx hb dX3_push_12 rfl (lv_at hl 0 rfl) ?_
    refine va_get (D := D) (ci := 3) (v := .ref A_k_items) (C := RX3) (T := TX3) (N := 2) hx hb hts hw0 hown hK hP 0 rfl rfl 0 (by decide) hw2 (fun _ h9 => h9) rfl dX3_push_13 ?_
    refine lv_aload_n hx hb dX3_push_16 rfl (lv_at hl 0 rfl) ?_
    refine va_get (D := D) (ci := 3) (v := .int k_count) (C := RX3) (T := TX3) (N := 2) hx hb hts hw0 hown hK hP 0 rfl rfl 1 (by decide) hw1 (fun _ h9 => h9) rfl dX3_push_17 ?_
    refine lv_iload_n hx hb dX3_push_20 rfl (lv_at hl 1 rfl) ?_
    obtain ⟨g2, hM⟩ := z_g hM
    refine va_iast hx hb hK hP hD hS 1 0 rfl rfl g2 dX3_push_21 (fun H3 locs hP hD hS => ?_)
    have hP : va_P D vwCl [(A_k, .inr (3, [.ref A_k_items, .int k_count])), (A_k_items, .inl (cI, k_N, .inl (upd k_items k_count.toNatClampNeg x1)))] H3 := hP
    have hD : va_D A [(A_k, .inr (3, [.ref A_k_items, .int k_count])), (A_k_items, .inl (cI, k_N, .inl (upd k_items k_count.toNatClampNeg x1)))] := hD
    refine lv_aload_n hx hb dX3_push_22 rfl (lv_at hl 0 rfl) ?_
    refine lv_dup hx hb dX3_push_23 rfl ?_
    refine va_get (D := D) (ci := 3) (v := .int k_count) (C := RX3) (T := TX3) (N := 2) hx hb hts hw0 hown hK hP 0 rfl rfl 1 (by decide) hw1 (fun _ h9 => h9) rfl dX3_push_24 ?_
    refine lv_iconst (v := 1) hx hb dX3_push_27 (by decide) ?_
    refine lv_iadd hx hb dX3_push_28 ?_
    refine va_put (D := D) (ci := 3) (v := .int (k_count + 1)) (ty := .int) (C := RX3) (T := TX3) (N := 2) hx hb hts hw0 tyX3 tyX3_ok nmX3 hown hK hP hD hS 0 rfl rfl 1 (by decide) hw1 (fun _ h9 => h9) rfl (by decide +kernel) rfl rfl (Nat.le_of_ble_eq_true rfl) dX3_push_29 (fun H4 locs hP hD hS => ?_)
    have hP : va_P D vwCl [(A_k, .inr (3, [.ref A_k_items, .int (k_count + 1)])), (A_k_items, .inl (cI, k_N, .inl (upd k_items k_count.toNatClampNeg x1)))] H4 := hP
    have hD : va_D A [(A_k, .inr (3, [.ref A_k_items, .int (k_count + 1)])), (A_k_items, .inl (cI, k_N, .inl (upd k_items k_count.toNatClampNeg x1)))] := hD
    have hM := Option.some.inj hM
    subst hM
    exact W.vret hx hb hr (fun t ht hW => ⟨⟨(), rfl, trivial, ⟨by rw [ht]; exact hP, va_K.moved hW.alike hK, hD⟩⟩, hS.F ht⟩) hS.2.2 dX3_push_32
def fn_IntStack_top (k_N : Nat) (k_count : Int32) (k_items : Nat → Int32) : Option (Int32) := (if k_count ≤ 0 then some (-1) else (if ((k_count - 1) < 0 ∨ k_N ≤ (k_count - 1).toNatClampNeg) then none else some (k_items (k_count - 1).toNatClampNeg)))
set_option maxHeartbeats 40000000 in
set_option maxRecDepth 100000 in
theorem ct_IntStack_top (l : Launch) (D : va_G) (cI cJ cC : ClassId) (adK adV : Nat → Nat) (A_k A_k_items : Nat) (sz : Nat) (k_N : Nat) (k_count : Int32) (k_items : Nat → Int32) {rs : Int32} (hM : fn_IntStack_top k_N k_count k_items = some rs) : Met l yX3_top wsX3_top ({ frames := 0, cells := 0, slots := 0, locals := 0 } : Room) (zP D cI cJ cC adK adV [.ref A_k] sz [(A_k, .inr (3, [.ref A_k_items, .int k_count])), (A_k_items, .inl (cI, k_N, .inl k_items))]) (zQi D cI cJ cC rs [(A_k, .inr (3, [.ref A_k_items, .int k_count])), (A_k_items, .inl (cI, k_N, .inl k_items))] (va_A [(A_k, .inr (3, [.ref A_k_items, .int k_count])), (A_k_items, .inl (cI, k_N, .inl k_items))] sz)) 0 0 (va_A [(A_k, .inr (3, [.ref A_k_items, .int k_count])), (A_k_items, .inl (cI, k_N, .inl k_items))] sz) := by
  refine Met.ofW (cc := cX3_top) (maxL := 1) (ret := (some .int)) (by decide) rfl ?_
  intro p e s m args below meth c s₁ B hml hv0
  obtain ⟨hargs, hsz, hP, hK, hD0, hX⟩ := hv0
  have hx := B.exec
  have hb := B.bytes
  have hr := B.returns
  have hts := atoms_spec (ws := wsX3_top) B.pre
  have hown : s.vm.findClass RX3 = some m.cls := findClass_of_methodNamed B.named
  have hlocks := B.notSynchronized
  subst hsz
  have hD := hD0.self (sz := s.heap.size)
  generalize hAe : va_A [(A_k, .inr (3, [.ref A_k_items, .int k_count])), (A_k_items, .inl (cI, k_N, .inl k_items))] s.heap.size = A at hD hX ⊢
  have hA : ∀ q : Nat, s.heap.size ≤ q → A q := fun q h => by rw [← hAe]; exact Or.inr h
  have hS : va_S A s.heap s.heap [] := va_S.rf
  have hl := lv_entry ([.ref A_k]) (n := 1) (Nat.le_of_ble_eq_true rfl)
  rw [hargs, lg_entry_eq, ← hargs]
  generalize (lg_sl ([.ref A_k]) ++ List.replicate (1 - (lg_sl ([.ref A_k])).length) Slot.unset).toArray = ls at hl ⊢
  have hl : lv_has ls 1 [(0, .ref A_k)] := hl
  have hw0 : ∀ w ∈ u_ws RX3 TX3 2, w ∈ wsX3_top := by decide +kernel
  have hw1 := hts (.fieldLink RX3 21 "NotationParser$IntStack" "count" "I") (by decide +kernel)
  have hw2 := hts (.fieldLink RX3 15 "NotationParser$IntStack" "items" "[I") (by decide +kernel)
  refine lv_aload_n hx hb dX3_top_0 rfl (lv_at hl 0 rfl) ?_
  refine va_get (D := D) (ci := 3) (v := .int k_count) (C := RX3) (T := TX3) (N := 2) hx hb hts hw0 hown hK hP 0 rfl rfl 1 (by decide) hw1 (fun _ h9 => h9) rfl dX3_top_1 ?_
  refine lv_if_le (tgt := 21) hx hb dX3_top_4 (by decide) (fun c1 => ?_) (fun c1 => ?_)
  · have hM := z_t c1 hM
    refine lv_iconst (v := (-1)) hx hb dX3_top_21 (by decide) ?_
    have hM := Option.some.inj hM
    subst hM
    exact W.iret (v := (-1)) hx hb hr (fun t ht hW => ⟨⟨_, (), rfl, rfl, ⟨by rw [ht]; exact hP, va_K.moved hW.alike hK, hD⟩⟩, hS.F ht⟩) hS.2.2 dX3_top_22
  · have hM := z_f c1 hM
    refine lv_aload_n hx hb dX3_top_7 rfl (lv_at hl 0 rfl) ?_
    refine va_get (D := D) (ci := 3) (v := .ref A_k_items) (C := RX3) (T := TX3) (N := 2) hx hb hts hw0 hown hK hP 0 rfl rfl 0 (by decide) hw2 (fun _ h9 => h9) rfl dX3_top_8 ?_
    refine lv_aload_n hx hb dX3_top_11 rfl (lv_at hl 0 rfl) ?_
    refine va_get (D := D) (ci := 3) (v := .int k_count) (C := RX3) (T := TX3) (N := 2) hx hb hts hw0 hown hK hP 0 rfl rfl 1 (by decide) hw1 (fun _ h9 => h9) rfl dX3_top_12 ?_
    refine lv_iconst (v := 1) hx hb dX3_top_15 (by decide) ?_
    refine lv_isub hx hb dX3_top_16 ?_
    obtain ⟨g2, hM⟩ := z_g hM
    refine va_iald hx hb hK hP 1 0 rfl rfl g2 dX3_top_17 ?_
    refine lv_goto (tgt := 22) hx hb dX3_top_18 (by decide) ?_
    have hM := Option.some.inj hM
    subst hM
    exact W.iret (v := (k_items (k_count - 1).toNatClampNeg)) hx hb hr (fun t ht hW => ⟨⟨_, (), rfl, rfl, ⟨by rw [ht]; exact hP, va_K.moved hW.alike hK, hD⟩⟩, hS.F ht⟩) hS.2.2 dX3_top_22
def fn_IntStack_pop (k_N : Nat) (k_count : Int32) (k_items : Nat → Int32) : Option (Int32 × Int32) := (if k_count = 0 then some ((-1), k_count) else (if ((k_count - 1) < 0 ∨ k_N ≤ (k_count - 1).toNatClampNeg) then none else some ((k_items (k_count - 1).toNatClampNeg), (k_count - 1))))
set_option maxHeartbeats 40000000 in
set_option maxRecDepth 100000 in
theorem ct_IntStack_pop (l : Launch) (D : va_G) (cI cJ cC : ClassId) (adK adV : Nat → Nat) (A_k A_k_items : Nat) (sz : Nat) (k_N : Nat) (k_count : Int32) (k_items : Nat → Int32) {rs : Int32 × Int32} (hM : fn_IntStack_pop k_N k_count k_items = some rs) : Met l yX3_pop wsX3_pop ({ frames := 0, cells := 0, slots := 0, locals := 0 } : Room) (zP D cI cJ cC adK adV [.ref A_k] sz [(A_k, .inr (3, [.ref A_k_items, .int k_count])), (A_k_items, .inl (cI, k_N, .inl k_items))]) (zQi D cI cJ cC rs.1 [(A_k, .inr (3, [.ref A_k_items, .int rs.2])), (A_k_items, .inl (cI, k_N, .inl k_items))] (va_A [(A_k, .inr (3, [.ref A_k_items, .int k_count])), (A_k_items, .inl (cI, k_N, .inl k_items))] sz)) 0 0 (va_A [(A_k, .inr (3, [.ref A_k_items, .int k_count])), (A_k_items, .inl (cI, k_N, .inl k_items))] sz) := by
  refine Met.ofW (cc := cX3_pop) (maxL := 1) (ret := (some .int)) (by decide) rfl ?_
  intro p e s m args below meth c s₁ B hml hv0
  obtain ⟨hargs, hsz, hP, hK, hD0, hX⟩ := hv0
  have hx := B.exec
  have hb := B.bytes
  have hr := B.returns
  have hts := atoms_spec (ws := wsX3_pop) B.pre
  have hown : s.vm.findClass RX3 = some m.cls := findClass_of_methodNamed B.named
  have hlocks := B.notSynchronized
  subst hsz
  have hD := hD0.self (sz := s.heap.size)
  generalize hAe : va_A [(A_k, .inr (3, [.ref A_k_items, .int k_count])), (A_k_items, .inl (cI, k_N, .inl k_items))] s.heap.size = A at hD hX ⊢
  have hA : ∀ q : Nat, s.heap.size ≤ q → A q := fun q h => by rw [← hAe]; exact Or.inr h
  have hS : va_S A s.heap s.heap [] := va_S.rf
  have hl := lv_entry ([.ref A_k]) (n := 1) (Nat.le_of_ble_eq_true rfl)
  rw [hargs, lg_entry_eq, ← hargs]
  generalize (lg_sl ([.ref A_k]) ++ List.replicate (1 - (lg_sl ([.ref A_k])).length) Slot.unset).toArray = ls at hl ⊢
  have hl : lv_has ls 1 [(0, .ref A_k)] := hl
  have hw0 : ∀ w ∈ u_ws RX3 TX3 2, w ∈ wsX3_pop := by decide +kernel
  have hw1 := hts (.fieldLink RX3 21 "NotationParser$IntStack" "count" "I") (by decide +kernel)
  have hw2 := hts (.fieldLink RX3 15 "NotationParser$IntStack" "items" "[I") (by decide +kernel)
  refine lv_aload_n hx hb dX3_pop_0 rfl (lv_at hl 0 rfl) ?_
  refine va_get (D := D) (ci := 3) (v := .int k_count) (C := RX3) (T := TX3) (N := 2) hx hb hts hw0 hown hK hP 0 rfl rfl 1 (by decide) hw1 (fun _ h9 => h9) rfl dX3_pop_1 ?_
  refine lv_if_ne (tgt := 9) hx hb dX3_pop_4 (by decide) (fun c1 => ?_) (fun c1 => ?_)
  · have hM := z_f c1 hM
    refine lv_aload_n hx hb dX3_pop_9 rfl (lv_at hl 0 rfl) ?_
    refine lv_dup hx hb dX3_pop_10 rfl ?_
    refine va_get (D := D) (ci := 3) (v := .int k_count) (C := RX3) (T := TX3) (N := 2) hx hb hts hw0 hown hK hP 0 rfl rfl 1 (by decide) hw1 (fun _ h9 => h9) rfl dX3_pop_11 ?_
    refine lv_iconst (v := 1) hx hb dX3_pop_14 (by decide) ?_
    refine lv_isub hx hb dX3_pop_15 ?_
    refine va_put (D := D) (ci := 3) (v := .int (k_count - 1)) (ty := .int) (C := RX3) (T := TX3) (N := 2) hx hb hts hw0 tyX3 tyX3_ok nmX3 hown hK hP hD hS 0 rfl rfl 1 (by decide) hw1 (fun _ h9 => h9) rfl (by decide +kernel) rfl rfl (Nat.le_of_ble_eq_true rfl) dX3_pop_16 (fun H2 locs hP hD hS => ?_)
    have hP : va_P D vwCl [(A_k, .inr (3, [.ref A_k_items, .int (k_count - 1)])), (A_k_items, .inl (cI, k_N, .inl k_items))] H2 := hP
    have hD : va_D A [(A_k, .inr (3, [.ref A_k_items, .int (k_count - 1)])), (A_k_items, .inl (cI, k_N, .inl k_items))] := hD
    refine lv_aload_n hx hb dX3_pop_19 rfl (lv_at hl 0 rfl) ?_
    refine va_get (D := D) (ci := 3) (v := .ref A_k_items) (C := RX3) (T := TX3) (N := 2) hx hb hts hw0 hown hK hP 0 rfl rfl 0 (by decide) hw2 (fun _ h9 => h9) rfl dX3_pop_20 ?_
    refine lv_aload_n hx hb dX3_pop_23 rfl (lv_at hl 0 rfl) ?_
    refine va_get (D := D) (ci := 3) (v := .int (k_count - 1)) (C := RX3) (T := TX3) (N := 2) hx hb hts hw0 hown hK hP 0 rfl rfl 1 (by decide) hw1 (fun _ h9 => h9) rfl dX3_pop_24 ?_
    obtain ⟨g3, hM⟩ := z_g hM
    refine va_iald hx hb hK hP 1 0 rfl rfl g3 dX3_pop_27 ?_
    have hM := Option.some.inj hM
    subst hM
    exact W.iret (v := (k_items (k_count - 1).toNatClampNeg)) hx hb hr (fun t ht hW => ⟨⟨_, (), rfl, rfl, ⟨by rw [ht]; exact hP, va_K.moved hW.alike hK, hD⟩⟩, hS.F ht⟩) hS.2.2 dX3_pop_28
  · have hM := z_t c1 hM
    refine lv_iconst (v := (-1)) hx hb dX3_pop_7 (by decide) ?_
    have hM := Option.some.inj hM
    subst hM
    exact W.iret (v := (-1)) hx hb hr (fun t ht hW => ⟨⟨_, (), rfl, rfl, ⟨by rw [ht]; exact hP, va_K.moved hW.alike hK, hD⟩⟩, hS.F ht⟩) hS.2.2 dX3_pop_8
