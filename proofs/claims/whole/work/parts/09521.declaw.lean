theorem dL_law__458 : decode cL_law_ 458 = .ok (.ifCond .eq 5, 3) := by decide +kernel
theorem dL_law__461 : decode cL_law_ 461 = .ok (.iconst 0, 1) := by decide +kernel
theorem dL_law__462 : decode cL_law_ 462 = .ok (.ireturn, 1) := by decide +kernel
theorem dL_law__463 : decode cL_law_ 463 = .ok (.goto 2108, 3) := by decide +kernel
theorem dL_law__466 : decode cL_law_ 466 = .ok (.aload_n 1, 1) := by decide +kernel
theorem dL_law__467 : decode cL_law_ 467 = .ok (.aload_n 0, 1) := by decide +kernel
theorem dL_law__468 : decode cL_law_ 468 = .ok (.iload 4, 2) := by decide +kernel
theorem dL_law__470 : decode cL_law_ 470 = .ok (.iconst 1, 1) := by decide +kernel
theorem dL_law__471 : decode cL_law_ 471 = .ok (.iadd, 1) := by decide +kernel
theorem dL_law__472 : decode cL_law_ 472 = .ok (.iaload, 1) := by decide +kernel
theorem dL_law__473 : decode cL_law_ 473 = .ok (.aload_n 0, 1) := by decide +kernel
theorem dL_law__474 : decode cL_law_ 474 = .ok (.iload 4, 2) := by decide +kernel
theorem dL_law__476 : decode cL_law_ 476 = .ok (.iconst 2, 1) := by decide +kernel
theorem dL_law__477 : decode cL_law_ 477 = .ok (.iadd, 1) := by decide +kernel
theorem dL_law__478 : decode cL_law_ 478 = .ok (.iaload, 1) := by decide +kernel
theorem dL_law__479 : decode cL_law_ 479 = .ok (.aload_n 3, 1) := by decide +kernel
theorem dL_law__480 : decode cL_law_ 480 = .ok (.invokestatic 144, 3) := by decide +kernel
theorem dL_law__483 : decode cL_law_ 483 = .ok (.istore 5, 2) := by decide +kernel
theorem dL_law__485 : decode cL_law_ 485 = .ok (.aload_n 2, 1) := by decide +kernel
theorem dL_law__486 : decode cL_law_ 486 = .ok (.aload_n 0, 1) := by decide +kernel
theorem dL_law__487 : decode cL_law_ 487 = .ok (.iload 4, 2) := by decide +kernel
theorem dL_law__489 : decode cL_law_ 489 = .ok (.iconst 1, 1) := by decide +kernel
theorem dL_law__490 : decode cL_law_ 490 = .ok (.iadd, 1) := by decide +kernel
theorem dL_law__491 : decode cL_law_ 491 = .ok (.iaload, 1) := by decide +kernel
theorem dL_law__492 : decode cL_law_ 492 = .ok (.aload_n 0, 1) := by decide +kernel
theorem dL_law__493 : decode cL_law_ 493 = .ok (.iload 4, 2) := by decide +kernel
theorem dL_law__495 : decode cL_law_ 495 = .ok (.iconst 2, 1) := by decide +kernel
theorem dL_law__496 : decode cL_law_ 496 = .ok (.iadd, 1) := by decide +kernel
theorem dL_law__497 : decode cL_law_ 497 = .ok (.iaload, 1) := by decide +kernel
theorem dL_law__498 : decode cL_law_ 498 = .ok (.invokevirtual 146, 3) := by decide +kernel
theorem dL_law__501 : decode cL_law_ 501 = .ok (.istore 6, 2) := by decide +kernel
theorem dL_law__503 : decode cL_law_ 503 = .ok (.aload_n 2, 1) := by decide +kernel
theorem dL_law__504 : decode cL_law_ 504 = .ok (.invokevirtual 129, 3) := by decide +kernel
theorem dL_law__507 : decode cL_law_ 507 = .ok (.iload 5, 2) := by decide +kernel
theorem dL_law__509 : decode cL_law_ 509 = .ok (.if_icmp .eq 5, 3) := by decide +kernel
theorem dL_law__512 : decode cL_law_ 512 = .ok (.iconst 0, 1) := by decide +kernel
theorem dL_law__513 : decode cL_law_ 513 = .ok (.ireturn, 1) := by decide +kernel
theorem dL_law__514 : decode cL_law_ 514 = .ok (.iload 5, 2) := by decide +kernel
theorem dL_law__516 : decode cL_law_ 516 = .ok (.ifCond .ne 15, 3) := by decide +kernel
theorem dL_law__519 : decode cL_law_ 519 = .ok (.aload_n 3, 1) := by decide +kernel
theorem dL_law__520 : decode cL_law_ 520 = .ok (.iconst 0, 1) := by decide +kernel
theorem dL_law__521 : decode cL_law_ 521 = .ok (.laload, 1) := by decide +kernel
theorem dL_law__522 : decode cL_law_ 522 = .ok (.iload 6, 2) := by decide +kernel
theorem dL_law__524 : decode cL_law_ 524 = .ok (.i2l, 1) := by decide +kernel
theorem dL_law__525 : decode cL_law_ 525 = .ok (.lcmp, 1) := by decide +kernel
theorem dL_law__526 : decode cL_law_ 526 = .ok (.ifCond .eq 5, 3) := by decide +kernel
theorem dL_law__529 : decode cL_law_ 529 = .ok (.iconst 0, 1) := by decide +kernel
theorem dL_law__530 : decode cL_law_ 530 = .ok (.ireturn, 1) := by decide +kernel
theorem dL_law__531 : decode cL_law_ 531 = .ok (.goto 2040, 3) := by decide +kernel
theorem dL_law__534 : decode cL_law_ 534 = .ok (.aload_n 1, 1) := by decide +kernel
theorem dL_law__535 : decode cL_law_ 535 = .ok (.aload_n 0, 1) := by decide +kernel
theorem dL_law__536 : decode cL_law_ 536 = .ok (.iload 4, 2) := by decide +kernel
theorem dL_law__538 : decode cL_law_ 538 = .ok (.iconst 1, 1) := by decide +kernel
theorem dL_law__539 : decode cL_law_ 539 = .ok (.iadd, 1) := by decide +kernel
theorem dL_law__540 : decode cL_law_ 540 = .ok (.iaload, 1) := by decide +kernel
theorem dL_law__541 : decode cL_law_ 541 = .ok (.aload_n 3, 1) := by decide +kernel
theorem dL_law__542 : decode cL_law_ 542 = .ok (.invokestatic 147, 3) := by decide +kernel
theorem dL_law__545 : decode cL_law_ 545 = .ok (.istore 5, 2) := by decide +kernel
theorem dL_law__547 : decode cL_law_ 547 = .ok (.aload_n 2, 1) := by decide +kernel
theorem dL_law__548 : decode cL_law_ 548 = .ok (.aload_n 0, 1) := by decide +kernel
theorem dL_law__549 : decode cL_law_ 549 = .ok (.iload 4, 2) := by decide +kernel
theorem dL_law__551 : decode cL_law_ 551 = .ok (.iconst 1, 1) := by decide +kernel
theorem dL_law__552 : decode cL_law_ 552 = .ok (.iadd, 1) := by decide +kernel
theorem dL_law__553 : decode cL_law_ 553 = .ok (.iaload, 1) := by decide +kernel
theorem dL_law__554 : decode cL_law_ 554 = .ok (.invokevirtual 149, 3) := by decide +kernel
theorem dL_law__557 : decode cL_law_ 557 = .ok (.istore 6, 2) := by decide +kernel
theorem dL_law__559 : decode cL_law_ 559 = .ok (.aload_n 2, 1) := by decide +kernel
theorem dL_law__560 : decode cL_law_ 560 = .ok (.invokevirtual 129, 3) := by decide +kernel
theorem dL_law__563 : decode cL_law_ 563 = .ok (.iload 5, 2) := by decide +kernel
theorem dL_law__565 : decode cL_law_ 565 = .ok (.if_icmp .eq 5, 3) := by decide +kernel
theorem dL_law__568 : decode cL_law_ 568 = .ok (.iconst 0, 1) := by decide +kernel
theorem dL_law__569 : decode cL_law_ 569 = .ok (.ireturn, 1) := by decide +kernel
theorem dL_law__570 : decode cL_law_ 570 = .ok (.iload 5, 2) := by decide +kernel
theorem dL_law__572 : decode cL_law_ 572 = .ok (.ifCond .ne 15, 3) := by decide +kernel
theorem dL_law__575 : decode cL_law_ 575 = .ok (.aload_n 3, 1) := by decide +kernel
theorem dL_law__576 : decode cL_law_ 576 = .ok (.iconst 0, 1) := by decide +kernel
theorem dL_law__577 : decode cL_law_ 577 = .ok (.laload, 1) := by decide +kernel
theorem dL_law__578 : decode cL_law_ 578 = .ok (.iload 6, 2) := by decide +kernel
theorem dL_law__580 : decode cL_law_ 580 = .ok (.i2l, 1) := by decide +kernel
theorem dL_law__581 : decode cL_law_ 581 = .ok (.lcmp, 1) := by decide +kernel
theorem dL_law__582 : decode cL_law_ 582 = .ok (.ifCond .eq 5, 3) := by decide +kernel
theorem dL_law__585 : decode cL_law_ 585 = .ok (.iconst 0, 1) := by decide +kernel
theorem dL_law__586 : decode cL_law_ 586 = .ok (.ireturn, 1) := by decide +kernel
theorem dL_law__587 : decode cL_law_ 587 = .ok (.goto 1984, 3) := by decide +kernel
theorem dL_law__590 : decode cL_law_ 590 = .ok (.aload_n 1, 1) := by decide +kernel
theorem dL_law__591 : decode cL_law_ 591 = .ok (.aload_n 0, 1) := by decide +kernel
theorem dL_law__592 : decode cL_law_ 592 = .ok (.iload 4, 2) := by decide +kernel
theorem dL_law__594 : decode cL_law_ 594 = .ok (.iconst 1, 1) := by decide +kernel
theorem dL_law__595 : decode cL_law_ 595 = .ok (.iadd, 1) := by decide +kernel
theorem dL_law__596 : decode cL_law_ 596 = .ok (.iaload, 1) := by decide +kernel
theorem dL_law__597 : decode cL_law_ 597 = .ok (.aload_n 0, 1) := by decide +kernel
theorem dL_law__598 : decode cL_law_ 598 = .ok (.iload 4, 2) := by decide +kernel
theorem dL_law__600 : decode cL_law_ 600 = .ok (.iconst 2, 1) := by decide +kernel
theorem dL_law__601 : decode cL_law_ 601 = .ok (.iadd, 1) := by decide +kernel
theorem dL_law__602 : decode cL_law_ 602 = .ok (.iaload, 1) := by decide +kernel
theorem dL_law__603 : decode cL_law_ 603 = .ok (.aload_n 0, 1) := by decide +kernel
theorem dL_law__604 : decode cL_law_ 604 = .ok (.iload 4, 2) := by decide +kernel
theorem dL_law__606 : decode cL_law_ 606 = .ok (.iconst 3, 1) := by decide +kernel
theorem dL_law__607 : decode cL_law_ 607 = .ok (.iadd, 1) := by decide +kernel
theorem dL_law__608 : decode cL_law_ 608 = .ok (.iaload, 1) := by decide +kernel
theorem dL_law__609 : decode cL_law_ 609 = .ok (.aload_n 0, 1) := by decide +kernel
theorem dL_law__610 : decode cL_law_ 610 = .ok (.iload 4, 2) := by decide +kernel
theorem dL_law__612 : decode cL_law_ 612 = .ok (.iconst 4, 1) := by decide +kernel
theorem dL_law__613 : decode cL_law_ 613 = .ok (.iadd, 1) := by decide +kernel
theorem dL_law__614 : decode cL_law_ 614 = .ok (.iaload, 1) := by decide +kernel
theorem dL_law__615 : decode cL_law_ 615 = .ok (.aload_n 3, 1) := by decide +kernel
theorem dL_law__616 : decode cL_law_ 616 = .ok (.invokestatic 150, 3) := by decide +kernel
theorem dL_law__619 : decode cL_law_ 619 = .ok (.istore 5, 2) := by decide +kernel
theorem dL_law__621 : decode cL_law_ 621 = .ok (.aload_n 2, 1) := by decide +kernel
theorem dL_law__622 : decode cL_law_ 622 = .ok (.aload_n 0, 1) := by decide +kernel
theorem dL_law__623 : decode cL_law_ 623 = .ok (.iload 4, 2) := by decide +kernel
theorem dL_law__625 : decode cL_law_ 625 = .ok (.iconst 1, 1) := by decide +kernel
theorem dL_law__626 : decode cL_law_ 626 = .ok (.iadd, 1) := by decide +kernel
theorem dL_law__627 : decode cL_law_ 627 = .ok (.iaload, 1) := by decide +kernel
theorem dL_law__628 : decode cL_law_ 628 = .ok (.aload_n 0, 1) := by decide +kernel
theorem dL_law__629 : decode cL_law_ 629 = .ok (.iload 4, 2) := by decide +kernel
theorem dL_law__631 : decode cL_law_ 631 = .ok (.iconst 2, 1) := by decide +kernel
theorem dL_law__632 : decode cL_law_ 632 = .ok (.iadd, 1) := by decide +kernel
theorem dL_law__633 : decode cL_law_ 633 = .ok (.iaload, 1) := by decide +kernel
theorem dL_law__634 : decode cL_law_ 634 = .ok (.aload_n 0, 1) := by decide +kernel
theorem dL_law__635 : decode cL_law_ 635 = .ok (.iload 4, 2) := by decide +kernel
theorem dL_law__637 : decode cL_law_ 637 = .ok (.iconst 3, 1) := by decide +kernel
theorem dL_law__638 : decode cL_law_ 638 = .ok (.iadd, 1) := by decide +kernel
theorem dL_law__639 : decode cL_law_ 639 = .ok (.iaload, 1) := by decide +kernel
theorem dL_law__640 : decode cL_law_ 640 = .ok (.aload_n 0, 1) := by decide +kernel
theorem dL_law__641 : decode cL_law_ 641 = .ok (.iload 4, 2) := by decide +kernel
theorem dL_law__643 : decode cL_law_ 643 = .ok (.iconst 4, 1) := by decide +kernel
theorem dL_law__644 : decode cL_law_ 644 = .ok (.iadd, 1) := by decide +kernel
theorem dL_law__645 : decode cL_law_ 645 = .ok (.iaload, 1) := by decide +kernel
theorem dL_law__646 : decode cL_law_ 646 = .ok (.invokevirtual 153, 3) := by decide +kernel
theorem dL_law__649 : decode cL_law_ 649 = .ok (.istore 6, 2) := by decide +kernel
theorem dL_law__651 : decode cL_law_ 651 = .ok (.aload_n 2, 1) := by decide +kernel
theorem dL_law__652 : decode cL_law_ 652 = .ok (.invokevirtual 129, 3) := by decide +kernel
theorem dL_law__655 : decode cL_law_ 655 = .ok (.iload 5, 2) := by decide +kernel
theorem dL_law__657 : decode cL_law_ 657 = .ok (.if_icmp .eq 5, 3) := by decide +kernel
theorem dL_law__660 : decode cL_law_ 660 = .ok (.iconst 0, 1) := by decide +kernel
theorem dL_law__661 : decode cL_law_ 661 = .ok (.ireturn, 1) := by decide +kernel
theorem dL_law__662 : decode cL_law_ 662 = .ok (.iload 5, 2) := by decide +kernel
theorem dL_law__664 : decode cL_law_ 664 = .ok (.ifCond .ne 15, 3) := by decide +kernel
theorem dL_law__667 : decode cL_law_ 667 = .ok (.aload_n 3, 1) := by decide +kernel
theorem dL_law__668 : decode cL_law_ 668 = .ok (.iconst 0, 1) := by decide +kernel
theorem dL_law__669 : decode cL_law_ 669 = .ok (.laload, 1) := by decide +kernel
theorem dL_law__670 : decode cL_law_ 670 = .ok (.iload 6, 2) := by decide +kernel
theorem dL_law__672 : decode cL_law_ 672 = .ok (.i2l, 1) := by decide +kernel
theorem dL_law__673 : decode cL_law_ 673 = .ok (.lcmp, 1) := by decide +kernel
theorem dL_law__674 : decode cL_law_ 674 = .ok (.ifCond .eq 5, 3) := by decide +kernel
theorem dL_law__677 : decode cL_law_ 677 = .ok (.iconst 0, 1) := by decide +kernel
theorem dL_law__678 : decode cL_law_ 678 = .ok (.ireturn, 1) := by decide +kernel
theorem dL_law__679 : decode cL_law_ 679 = .ok (.goto 1892, 3) := by decide +kernel
theorem dL_law__682 : decode cL_law_ 682 = .ok (.aload_n 1, 1) := by decide +kernel
theorem dL_law__683 : decode cL_law_ 683 = .ok (.aload_n 0, 1) := by decide +kernel
theorem dL_law__684 : decode cL_law_ 684 = .ok (.iload 4, 2) := by decide +kernel
theorem dL_law__686 : decode cL_law_ 686 = .ok (.iconst 1, 1) := by decide +kernel
theorem dL_law__687 : decode cL_law_ 687 = .ok (.iadd, 1) := by decide +kernel
theorem dL_law__688 : decode cL_law_ 688 = .ok (.iaload, 1) := by decide +kernel
theorem dL_law__689 : decode cL_law_ 689 = .ok (.aload_n 0, 1) := by decide +kernel
theorem dL_law__690 : decode cL_law_ 690 = .ok (.iload 4, 2) := by decide +kernel
theorem dL_law__692 : decode cL_law_ 692 = .ok (.iconst 2, 1) := by decide +kernel
theorem dL_law__693 : decode cL_law_ 693 = .ok (.iadd, 1) := by decide +kernel
theorem dL_law__694 : decode cL_law_ 694 = .ok (.iaload, 1) := by decide +kernel
theorem dL_law__695 : decode cL_law_ 695 = .ok (.aload_n 0, 1) := by decide +kernel
theorem dL_law__696 : decode cL_law_ 696 = .ok (.iload 4, 2) := by decide +kernel
theorem dL_law__698 : decode cL_law_ 698 = .ok (.iconst 3, 1) := by decide +kernel
theorem dL_law__699 : decode cL_law_ 699 = .ok (.iadd, 1) := by decide +kernel
theorem dL_law__700 : decode cL_law_ 700 = .ok (.iaload, 1) := by decide +kernel
theorem dL_law__701 : decode cL_law_ 701 = .ok (.aload_n 0, 1) := by decide +kernel
theorem dL_law__702 : decode cL_law_ 702 = .ok (.iload 4, 2) := by decide +kernel
theorem dL_law__704 : decode cL_law_ 704 = .ok (.iconst 4, 1) := by decide +kernel
theorem dL_law__705 : decode cL_law_ 705 = .ok (.iadd, 1) := by decide +kernel
theorem dL_law__706 : decode cL_law_ 706 = .ok (.iaload, 1) := by decide +kernel
theorem dL_law__707 : decode cL_law_ 707 = .ok (.aload_n 3, 1) := by decide +kernel
theorem dL_law__708 : decode cL_law_ 708 = .ok (.invokestatic 154, 3) := by decide +kernel
theorem dL_law__711 : decode cL_law_ 711 = .ok (.istore 5, 2) := by decide +kernel
theorem dL_law__713 : decode cL_law_ 713 = .ok (.aload_n 2, 1) := by decide +kernel
theorem dL_law__714 : decode cL_law_ 714 = .ok (.aload_n 0, 1) := by decide +kernel
theorem dL_law__715 : decode cL_law_ 715 = .ok (.iload 4, 2) := by decide +kernel
theorem dL_law__717 : decode cL_law_ 717 = .ok (.iconst 1, 1) := by decide +kernel
theorem dL_law__718 : decode cL_law_ 718 = .ok (.iadd, 1) := by decide +kernel
theorem dL_law__719 : decode cL_law_ 719 = .ok (.iaload, 1) := by decide +kernel
theorem dL_law__720 : decode cL_law_ 720 = .ok (.aload_n 0, 1) := by decide +kernel
theorem dL_law__721 : decode cL_law_ 721 = .ok (.iload 4, 2) := by decide +kernel
theorem dL_law__723 : decode cL_law_ 723 = .ok (.iconst 2, 1) := by decide +kernel
theorem dL_law__724 : decode cL_law_ 724 = .ok (.iadd, 1) := by decide +kernel
theorem dL_law__725 : decode cL_law_ 725 = .ok (.iaload, 1) := by decide +kernel
theorem dL_law__726 : decode cL_law_ 726 = .ok (.aload_n 0, 1) := by decide +kernel
theorem dL_law__727 : decode cL_law_ 727 = .ok (.iload 4, 2) := by decide +kernel
theorem dL_law__729 : decode cL_law_ 729 = .ok (.iconst 3, 1) := by decide +kernel
theorem dL_law__730 : decode cL_law_ 730 = .ok (.iadd, 1) := by decide +kernel
theorem dL_law__731 : decode cL_law_ 731 = .ok (.iaload, 1) := by decide +kernel
theorem dL_law__732 : decode cL_law_ 732 = .ok (.aload_n 0, 1) := by decide +kernel
theorem dL_law__733 : decode cL_law_ 733 = .ok (.iload 4, 2) := by decide +kernel
theorem dL_law__735 : decode cL_law_ 735 = .ok (.iconst 4, 1) := by decide +kernel
theorem dL_law__736 : decode cL_law_ 736 = .ok (.iadd, 1) := by decide +kernel
theorem dL_law__737 : decode cL_law_ 737 = .ok (.iaload, 1) := by decide +kernel
theorem dL_law__738 : decode cL_law_ 738 = .ok (.invokevirtual 156, 3) := by decide +kernel
theorem dL_law__741 : decode cL_law_ 741 = .ok (.istore 6, 2) := by decide +kernel
theorem dL_law__743 : decode cL_law_ 743 = .ok (.aload_n 2, 1) := by decide +kernel
theorem dL_law__744 : decode cL_law_ 744 = .ok (.invokevirtual 129, 3) := by decide +kernel
theorem dL_law__747 : decode cL_law_ 747 = .ok (.iload 5, 2) := by decide +kernel
theorem dL_law__749 : decode cL_law_ 749 = .ok (.if_icmp .eq 5, 3) := by decide +kernel
