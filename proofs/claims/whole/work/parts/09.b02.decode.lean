theorem ad_528 : ArgC 528 1 := by decide +kernel
theorem ad_533 : ArgC 533 2 := by decide +kernel
theorem dl_538 : decode code 538 = .ok (.invokevirtual 70, 3) := by decide +kernel
theorem dl_541 : decode code 541 = .ok (.if_icmp .eq 510, 3) := by decide +kernel
theorem dl_546 : decode code 546 = .ok (.aload_n 1, 1) := by decide +kernel
theorem ad_547 : ArgC 547 1 := by decide +kernel
theorem dl_552 : decode code 552 = .ok (.invokevirtual 71, 3) := by decide +kernel
theorem dl_555 : decode code 555 = .ok (.aload_n 2, 1) := by decide +kernel
theorem ad_556 : ArgC 556 1 := by decide +kernel
theorem dl_561 : decode code 561 = .ok (.invokevirtual 74, 3) := by decide +kernel
theorem dl_564 : decode code 564 = .ok (.if_icmp .eq 487, 3) := by decide +kernel
theorem dl_569 : decode code 569 = .ok (.aload_n 1, 1) := by decide +kernel
theorem ad_570 : ArgC 570 1 := by decide +kernel
theorem ad_575 : ArgC 575 2 := by decide +kernel
theorem ad_580 : ArgC 580 3 := by decide +kernel
theorem ad_585 : ArgC 585 4 := by decide +kernel
theorem ad_590 : ArgC 590 5 := by decide +kernel
theorem ad_595 : ArgB 595 6 := by decide +kernel
theorem dl_601 : decode code 601 = .ok (.invokevirtual 75, 3) := by decide +kernel
theorem dl_604 : decode code 604 = .ok (.aload_n 2, 1) := by decide +kernel
theorem ad_605 : ArgC 605 1 := by decide +kernel
theorem ad_610 : ArgC 610 2 := by decide +kernel
theorem ad_615 : ArgC 615 3 := by decide +kernel
theorem ad_620 : ArgC 620 4 := by decide +kernel
theorem ad_625 : ArgC 625 5 := by decide +kernel
theorem ad_630 : ArgB 630 6 := by decide +kernel
theorem dl_636 : decode code 636 = .ok (.invokevirtual 79, 3) := by decide +kernel
theorem dl_639 : decode code 639 = .ok (.if_icmp .eq 412, 3) := by decide +kernel
theorem dl_644 : decode code 644 = .ok (.aload_n 1, 1) := by decide +kernel
theorem ad_645 : ArgC 645 1 := by decide +kernel
theorem ad_650 : ArgC 650 2 := by decide +kernel
theorem dl_655 : decode code 655 = .ok (.invokevirtual 80, 3) := by decide +kernel
theorem dl_658 : decode code 658 = .ok (.aload_n 2, 1) := by decide +kernel
theorem ad_659 : ArgC 659 1 := by decide +kernel
theorem ad_664 : ArgC 664 2 := by decide +kernel
theorem dl_669 : decode code 669 = .ok (.invokevirtual 83, 3) := by decide +kernel
theorem dl_672 : decode code 672 = .ok (.if_icmp .eq 379, 3) := by decide +kernel
theorem dl_677 : decode code 677 = .ok (.aload_n 1, 1) := by decide +kernel
theorem ad_678 : ArgC 678 1 := by decide +kernel
theorem ad_683 : ArgC 683 2 := by decide +kernel
theorem dl_688 : decode code 688 = .ok (.invokevirtual 84, 3) := by decide +kernel
theorem dl_691 : decode code 691 = .ok (.aload_n 2, 1) := by decide +kernel
theorem ad_692 : ArgC 692 1 := by decide +kernel
theorem ad_697 : ArgC 697 2 := by decide +kernel
theorem dl_702 : decode code 702 = .ok (.invokevirtual 87, 3) := by decide +kernel
theorem dl_705 : decode code 705 = .ok (.if_icmp .eq 346, 3) := by decide +kernel
theorem dl_710 : decode code 710 = .ok (.aload_n 1, 1) := by decide +kernel
theorem ad_711 : ArgC 711 1 := by decide +kernel
theorem ad_716 : ArgC 716 2 := by decide +kernel
